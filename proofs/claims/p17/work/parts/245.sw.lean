theorem sw_10 (x : Int32) : (x.toInt < 0 ∨ 10 < x.toInt) ∨ x = 0 ∨ x = 1 ∨ x = 2 ∨ x = 3 ∨ x = 4 ∨ x = 5 ∨ x = 6 ∨ x = 7 ∨ x = 8 ∨ x = 9 ∨ x = 10 := by
  by_cases h : x.toInt < 0 ∨ 10 < x.toInt
  · exact Or.inl h
  · refine Or.inr ?_
    have e : x = Int32.ofInt x.toInt := (Int32.ofInt_toInt x).symm
    rcases (show x.toInt = 0 ∨ x.toInt = 1 ∨ x.toInt = 2 ∨ x.toInt = 3 ∨ x.toInt = 4 ∨ x.toInt = 5 ∨ x.toInt = 6 ∨ x.toInt = 7 ∨ x.toInt = 8 ∨ x.toInt = 9 ∨ x.toInt = 10 by omega) with h | h | h | h | h | h | h | h | h | h | h
    · exact (Or.inl (e.trans ((congrArg Int32.ofInt h).trans (by decide))))
    · exact (Or.inr (Or.inl (e.trans ((congrArg Int32.ofInt h).trans (by decide)))))
    · exact (Or.inr (Or.inr (Or.inl (e.trans ((congrArg Int32.ofInt h).trans (by decide))))))
    · exact (Or.inr (Or.inr (Or.inr (Or.inl (e.trans ((congrArg Int32.ofInt h).trans (by decide)))))))
    · exact (Or.inr (Or.inr (Or.inr (Or.inr (Or.inl (e.trans ((congrArg Int32.ofInt h).trans (by decide))))))))
    · exact (Or.inr (Or.inr (Or.inr (Or.inr (Or.inr (Or.inl (e.trans ((congrArg Int32.ofInt h).trans (by decide)))))))))
    · exact (Or.inr (Or.inr (Or.inr (Or.inr (Or.inr (Or.inr (Or.inl (e.trans ((congrArg Int32.ofInt h).trans (by decide))))))))))
    · exact (Or.inr (Or.inr (Or.inr (Or.inr (Or.inr (Or.inr (Or.inr (Or.inl (e.trans ((congrArg Int32.ofInt h).trans (by decide)))))))))))
    · exact (Or.inr (Or.inr (Or.inr (Or.inr (Or.inr (Or.inr (Or.inr (Or.inr (Or.inl (e.trans ((congrArg Int32.ofInt h).trans (by decide))))))))))))
    · exact (Or.inr (Or.inr (Or.inr (Or.inr (Or.inr (Or.inr (Or.inr (Or.inr (Or.inr (Or.inl (e.trans ((congrArg Int32.ofInt h).trans (by decide)))))))))))))
    · exact (Or.inr (Or.inr (Or.inr (Or.inr (Or.inr (Or.inr (Or.inr (Or.inr (Or.inr (Or.inr (e.trans ((congrArg Int32.ofInt h).trans (by decide)))))))))))))
