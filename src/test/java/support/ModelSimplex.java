/** The greatest of gain * x with x 0 or more and matrix * x no more than bounds (0 or more). */
final class ModelSimplex {
    static Frac most(Frac[][] matrix, Frac[] bounds, Frac[] gain) {
        int rows = matrix.length;
        int columns = gain.length;
        // the whole tableau, slack columns too: row by row, the bound last; the gain is the last row
        int width = columns + rows + 1;
        Frac[][] all = new Frac[rows + 1][width];
        int[] base = new int[rows];
        for (int r = 0; r <= rows; r++) {
            for (int c = 0; c < width; c++) {
                all[r][c] = Frac.ZERO;
            }
            for (int c = 0; c < columns; c++) {
                all[r][c] = r < rows ? matrix[r][c] : Frac.ZERO.minus(gain[c]);
            }
            if (r < rows) {
                all[r][columns + r] = Frac.ONE;
                all[r][width - 1] = bounds[r];
                base[r] = columns + r;
            }
        }
        while (true) {
            int column = 0;
            while (column < width - 1 && all[rows][column].sign() >= 0) {
                column++;
            }
            if (column == width - 1) {
                return all[rows][width - 1];
            }
            int row = -1;
            Frac least = null;
            for (int r = 0; r < rows; r++) {
                if (all[r][column].sign() > 0) {
                    Frac ratio = all[r][width - 1].over(all[r][column]);
                    if (row < 0 || ratio.isLess(least) || ratio.equals(least) && base[r] < base[row]) {
                        row = r;
                        least = ratio;
                    }
                }
            }
            turn(all, row, column);
            base[row] = column;
        }
    }

    private static void turn(Frac[][] all, int row, int column) {
        Frac by = all[row][column];
        for (int c = 0; c < all[row].length; c++) {
            all[row][c] = all[row][c].over(by);
        }
        for (int r = 0; r < all.length; r++) {
            Frac there = all[r][column];
            if (r != row && there.sign() != 0) {
                for (int c = 0; c < all[r].length; c++) {
                    if (all[row][c].sign() != 0) {
                        all[r][c] = all[r][c].minus(there.by(all[row][c]));
                    }
                }
            }
        }
    }
}
