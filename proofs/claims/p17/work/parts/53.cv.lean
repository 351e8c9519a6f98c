/-! the world of the start as the small machine has it -/
def stAd (as : List Nat) (r1 r2 r3 r4 : Nat → Nat) (k : Nat) : Nat := if k < 62 then as.getD k 0 else if k < 96 then r1 (k - 62) else if k < 116 then r2 (k - 96) else if k < 137 then r3 (k - 116) else r4 (k - 137)
def stCl (cI cZ cJ cJJ cII : ClassId) (k : Nat) : ClassId := [cI, cZ, cJ, cJJ, cII].getD k cI
def stz : mh_T := (fun _ _ => 0, (fun _ _ => 0, fun k i => if k = 40 then 96 + i else 116 + i))
def st0 (v : Int32) : mh_T := wI (wI (wI (wL (wL stz 5 1 1) 6 7 1) 7 2 1) 6 8 v) 11 10 (-1)
theorem st_ext {c : ClassId} {n : Nat} {f f1 : Nat → Option Nat} (h : ∀ i, i < n → f i = f1 i) : vp_cell c (n, .inr (.inr (.inr (.inr f)))) = vp_cell c (n, .inr (.inr (.inr (.inr f1)))) := by
  rw [vp_cell_q, vp_cell_q]
  unfold arrV
  congr 1
  apply congrArg
  funext j
  exact congrArg va_rf (h j.val j.isLt)
abbrev stW (cI cZ cJ cJJ cII : ClassId) (r1 r2 r3 r4 : Nat → Nat) (v : Int32) (a0 a1 a2 a3 a4 a5 a6 a7 a8 a9 a10 a11 a12 a13 a14 a15 a16 a17 a18 a19 a20 a21 a22 a23 a24 a25 a26 a27 a28 a29 a30 a31 a32 a33 a34 a35 a36 a37 a38 a39 a40 a41 a42 a43 a44 a45 a46 a47 a48 a49 a50 a51 a52 a53 a54 a55 a56 a57 a58 a59 a60 a61 : Nat) : va_W := ((a0, .inr (10, [.ref a12, .ref a1, .ref a3, .ref a4, .ref a6, .ref a7, .ref a8, .ref a9, .ref a10, .ref a5, .int 0, .int 0, .int 0, .int 0])) :: (a1, .inr (6, [.ref a2, .int 0, .int 0, .ref a12, .ref a13, .ref a14, .int 0, .int 0, .int 0, .int 0, .long 0, .int 0])) :: (a2, .inr (1, [.int 0, .int 0, .int 0, .int 0, .int 0, .int 0, .int 0, .ref a15, .ref a16, .ref a17, .ref a18, .ref a19, .ref a20, .ref a21, .ref a22, .ref a23])) :: (a3, .inr (8, [.int 0, .int 0, .int 0, .int 0, .ref a24, .ref a25, .ref a26, .ref a27])) :: (a4, .inr (7, [.ref a3])) :: (a5, .inr (2, [.long 0, .long 1])) :: (a6, .inr (0, [.ref a3, .ref a5, .ref a28, .ref a29, .ref a30, .int 0, .int 0, .long 1, .int v])) :: (a7, .inr (5, [.int 0, .int 0, .int 1, .int 0, .int 0, .ref a31])) :: (a8, .inr (3, [.int 0, .int 0, .int 0, .int 0, .int 0, .int 0, .ref a32, .ref a33, .int 0, .int 0, .int 0, .int 0])) :: (a9, .inr (9, [.int 0, .int 0, .int 0, .int 0, .ref a34, .ref a35, .ref a36, .ref a37, .ref a38, .ref a39])) :: (a10, .inr (4, [.int 0, .int 0, .int 0, .ref a40, .ref a41, .ref a42, .ref a3])) :: (a11, .inr (11, [.int 0, .ref a43, .int 0, .int 0, .int 0, .int 0, .int 0, .int 0, .int 0, .int 0, .int ((-1)), .int 0, .ref a44, .int 0, .int 0, .ref a45, .ref a46, .ref a47, .ref a48, .ref a49, .ref a50, .ref a51, .ref a52, .ref a53, .int 0, .int 0, .int 0, .ref a54, .ref a55, .long 0, .int 0, .int 0, .ref a56, .ref a57, .int 0, .ref a58, .int 0, .int 0, .ref a59, .ref a60])) :: (a12, .inl (cI, 900, .inl (fun _ => 0))) :: (a13, .inl (cJ, 6, .inr (.inl (fun _ => 0)))) :: (a14, .inl (cJ, 9, .inr (.inl (fun _ => 0)))) :: (a15, .inl (cI, 8, .inl (fun _ => 0))) :: (a16, .inl (cI, 8, .inl (fun _ => 0))) :: (a17, .inl (cI, 32, .inl (fun _ => 0))) :: (a18, .inl (cI, 8, .inl (fun _ => 0))) :: (a19, .inl (cI, 8, .inl (fun _ => 0))) :: (a20, .inl (cI, 72, .inl (fun _ => 0))) :: (a21, .inl (cI, 4, .inl (fun _ => 0))) :: (a22, .inl (cI, 24, .inl (fun _ => 0))) :: (a23, .inl (cI, 24, .inl (fun _ => 0))) :: (a24, .inl (cI, 8, .inl (fun _ => 0))) :: (a25, .inl (cI, 8, .inl (fun _ => 0))) :: (a26, .inl (cI, 32, .inl (fun _ => 0))) :: (a27, .inl (cI, 32, .inl (fun _ => 0))) :: (a28, .inl (cJJ, 34, .inr (.inr (.inr (.inr (fun i => if i < 34 then some (r1 i) else none)))))) :: (a29, .inl (cI, 32, .inl (fun _ => 0))) :: (a30, .inl (cI, 64, .inl (fun _ => 0))) :: (a31, .inl (cZ, 256, .inl (fun _ => 0))) :: (a32, .inl (cI, 18, .inl (fun _ => 0))) :: (a33, .inl (cI, 400, .inl (fun _ => 0))) :: (a34, .inl (cI, 24, .inl (fun _ => 0))) :: (a35, .inl (cI, 24, .inl (fun _ => 0))) :: (a36, .inl (cZ, 24, .inl (fun _ => 0))) :: (a37, .inl (cI, 18, .inl (fun _ => 0))) :: (a38, .inl (cI, 18, .inl (fun _ => 0))) :: (a39, .inl (cI, 18, .inl (fun _ => 0))) :: (a40, .inl (cII, 20, .inr (.inr (.inr (.inr (fun i => if i < 20 then some (r2 i) else none)))))) :: (a41, .inl (cII, 21, .inr (.inr (.inr (.inr (fun i => if i < 21 then some (r3 i) else none)))))) :: (a42, .inl (cII, 4, .inr (.inr (.inr (.inr (fun i => if i < 4 then some (r4 i) else none)))))) :: (a43, .inl (cI, 900, .inl (fun _ => 0))) :: (a44, .inl (cI, 8, .inl (fun _ => 0))) :: (a45, .inl (cI, 346, .inl (fun _ => 0))) :: (a46, .inl (cI, 346, .inl (fun _ => 0))) :: (a47, .inl (cI, 32, .inl (fun _ => 0))) :: (a48, .inl (cI, 49, .inl (fun _ => 0))) :: (a49, .inl (cI, 980, .inl (fun _ => 0))) :: (a50, .inl (cI, 980, .inl (fun _ => 0))) :: (a51, .inl (cI, 196, .inl (fun _ => 0))) :: (a52, .inl (cI, 100, .inl (fun _ => 0))) :: (a53, .inl (cI, 100, .inl (fun _ => 0))) :: (a54, .inl (cJ, 3298, .inr (.inl (fun _ => 0)))) :: (a55, .inl (cI, 32, .inl (fun _ => 0))) :: (a56, .inl (cI, 3060, .inl (fun _ => 0))) :: (a57, .inl (cI, 18, .inl (fun _ => 0))) :: (a58, .inl (cI, 19, .inl (fun _ => 0))) :: (a59, .inl (cI, 18, .inl (fun _ => 0))) :: (a60, .inl (cI, 18, .inl (fun _ => 0))) :: (a61, .inl (cJ, 1, .inr (.inl (fun _ => 0)))) :: (r1 0, .inl (cJ, 65, .inr (.inl (fun _ => 0)))) :: (r1 1, .inl (cJ, 65, .inr (.inl (fun _ => 0)))) :: (r1 2, .inl (cJ, 65, .inr (.inl (fun _ => 0)))) :: (r1 3, .inl (cJ, 65, .inr (.inl (fun _ => 0)))) :: (r1 4, .inl (cJ, 65, .inr (.inl (fun _ => 0)))) :: (r1 5, .inl (cJ, 65, .inr (.inl (fun _ => 0)))) :: (r1 6, .inl (cJ, 65, .inr (.inl (fun _ => 0)))) :: (r1 7, .inl (cJ, 65, .inr (.inl (fun _ => 0)))) :: (r1 8, .inl (cJ, 65, .inr (.inl (fun _ => 0)))) :: (r1 9, .inl (cJ, 65, .inr (.inl (fun _ => 0)))) :: (r1 10, .inl (cJ, 65, .inr (.inl (fun _ => 0)))) :: (r1 11, .inl (cJ, 65, .inr (.inl (fun _ => 0)))) :: (r1 12, .inl (cJ, 65, .inr (.inl (fun _ => 0)))) :: (r1 13, .inl (cJ, 65, .inr (.inl (fun _ => 0)))) :: (r1 14, .inl (cJ, 65, .inr (.inl (fun _ => 0)))) :: (r1 15, .inl (cJ, 65, .inr (.inl (fun _ => 0)))) :: (r1 16, .inl (cJ, 65, .inr (.inl (fun _ => 0)))) :: (r1 17, .inl (cJ, 65, .inr (.inl (fun _ => 0)))) :: (r1 18, .inl (cJ, 65, .inr (.inl (fun _ => 0)))) :: (r1 19, .inl (cJ, 65, .inr (.inl (fun _ => 0)))) :: (r1 20, .inl (cJ, 65, .inr (.inl (fun _ => 0)))) :: (r1 21, .inl (cJ, 65, .inr (.inl (fun _ => 0)))) :: (r1 22, .inl (cJ, 65, .inr (.inl (fun _ => 0)))) :: (r1 23, .inl (cJ, 65, .inr (.inl (fun _ => 0)))) :: (r1 24, .inl (cJ, 65, .inr (.inl (fun _ => 0)))) :: (r1 25, .inl (cJ, 65, .inr (.inl (fun _ => 0)))) :: (r1 26, .inl (cJ, 65, .inr (.inl (fun _ => 0)))) :: (r1 27, .inl (cJ, 65, .inr (.inl (fun _ => 0)))) :: (r1 28, .inl (cJ, 65, .inr (.inl (fun _ => 0)))) :: (r1 29, .inl (cJ, 65, .inr (.inl (fun _ => 0)))) :: (r1 30, .inl (cJ, 65, .inr (.inl (fun _ => 0)))) :: (r1 31, .inl (cJ, 65, .inr (.inl (fun _ => 0)))) :: (r1 32, .inl (cJ, 65, .inr (.inl (fun _ => 0)))) :: (r1 33, .inl (cJ, 65, .inr (.inl (fun _ => 0)))) :: (r2 0, .inl (cI, 5, .inl (fun _ => 0))) :: (r2 1, .inl (cI, 5, .inl (fun _ => 0))) :: (r2 2, .inl (cI, 5, .inl (fun _ => 0))) :: (r2 3, .inl (cI, 5, .inl (fun _ => 0))) :: (r2 4, .inl (cI, 5, .inl (fun _ => 0))) :: (r2 5, .inl (cI, 5, .inl (fun _ => 0))) :: (r2 6, .inl (cI, 5, .inl (fun _ => 0))) :: (r2 7, .inl (cI, 5, .inl (fun _ => 0))) :: (r2 8, .inl (cI, 5, .inl (fun _ => 0))) :: (r2 9, .inl (cI, 5, .inl (fun _ => 0))) :: (r2 10, .inl (cI, 5, .inl (fun _ => 0))) :: (r2 11, .inl (cI, 5, .inl (fun _ => 0))) :: (r2 12, .inl (cI, 5, .inl (fun _ => 0))) :: (r2 13, .inl (cI, 5, .inl (fun _ => 0))) :: (r2 14, .inl (cI, 5, .inl (fun _ => 0))) :: (r2 15, .inl (cI, 5, .inl (fun _ => 0))) :: (r2 16, .inl (cI, 5, .inl (fun _ => 0))) :: (r2 17, .inl (cI, 5, .inl (fun _ => 0))) :: (r2 18, .inl (cI, 5, .inl (fun _ => 0))) :: (r2 19, .inl (cI, 5, .inl (fun _ => 0))) :: (r3 0, .inl (cI, 49, .inl (fun _ => 0))) :: (r3 1, .inl (cI, 49, .inl (fun _ => 0))) :: (r3 2, .inl (cI, 49, .inl (fun _ => 0))) :: (r3 3, .inl (cI, 49, .inl (fun _ => 0))) :: (r3 4, .inl (cI, 49, .inl (fun _ => 0))) :: (r3 5, .inl (cI, 49, .inl (fun _ => 0))) :: (r3 6, .inl (cI, 49, .inl (fun _ => 0))) :: (r3 7, .inl (cI, 49, .inl (fun _ => 0))) :: (r3 8, .inl (cI, 49, .inl (fun _ => 0))) :: (r3 9, .inl (cI, 49, .inl (fun _ => 0))) :: (r3 10, .inl (cI, 49, .inl (fun _ => 0))) :: (r3 11, .inl (cI, 49, .inl (fun _ => 0))) :: (r3 12, .inl (cI, 49, .inl (fun _ => 0))) :: (r3 13, .inl (cI, 49, .inl (fun _ => 0))) :: (r3 14, .inl (cI, 49, .inl (fun _ => 0))) :: (r3 15, .inl (cI, 49, .inl (fun _ => 0))) :: (r3 16, .inl (cI, 49, .inl (fun _ => 0))) :: (r3 17, .inl (cI, 49, .inl (fun _ => 0))) :: (r3 18, .inl (cI, 49, .inl (fun _ => 0))) :: (r3 19, .inl (cI, 49, .inl (fun _ => 0))) :: (r3 20, .inl (cI, 49, .inl (fun _ => 0))) :: (r4 0, .inl (cI, 49, .inl (fun _ => 0))) :: (r4 1, .inl (cI, 49, .inl (fun _ => 0))) :: (r4 2, .inl (cI, 49, .inl (fun _ => 0))) :: (r4 3, .inl (cI, 49, .inl (fun _ => 0))) :: [])
def zin (p : Int × Int) : Prop := p.1 ≤ 0 ∧ 0 ≤ p.2
theorem zin_ite {c : Prop} [Decidable c] {a b : Int × Int} (ha : zin a) (hb : zin b) : zin (if c then a else b) := by split <;> assumption
theorem zin_rg (k j : Nat) : zin (rgT k j) := by
  unfold rgT rgRR rgR6 rgRowM rgRow rgF
  split <;> (repeat' apply zin_ite) <;> (unfold zin; decide)
theorem stz_GI : GI stz := by
  refine ⟨fun k j => zin_rg k j, ?_, ?_⟩
  · intro i hi
    have : ∀ i, i < 20 → shp (96 + i) = (20, 5, []) := by decide +kernel
    exact this i hi
  · intro i hi
    have : ∀ i, i < 21 → shp (116 + i) = (20, 49, []) ∧ 116 ≤ 116 + i := by decide +kernel
    exact this i hi
theorem st0_GI (v : Int32) : GI (st0 v) := by
  unfold st0
  refine GI_w (lo := -2147483648) (hi := 2147483647) (GI_w (lo := -2147483648) (hi := 2147483647) (GI_w (lo := -2147483648) (hi := 2147483647) (GI_wL (GI_wL stz_GI)) rfl ?_) rfl ?_) rfl ?_
  · unfold R; decide
  · exact ⟨Int32.le_toInt v, Int32.toInt_le v⟩
  · unfold R; decide
theorem TQ_z {f : Nat → Int32} {off : Nat} (h : ∀ j, f j = 0) : TQ f off := by
  intro s _
  rw [h, h, h, h]
  decide
theorem st0_RH (v : Int32) : RH (st0 v) := by
  have e45 : (st0 v).1 45 0 = 0 := rfl
  have s0 : sn ((st0 v).1 45) = 0 := by unfold sn; rw [e45]; rfl
  have tz : TZ ((st0 v).1 45) := ⟨by rw [e45]; decide, by rw [e45]; decide, fun s hs => absurd hs (by rw [s0]; omega)⟩
  refine ⟨⟨⟨rfl, tz, fun s hs => absurd hs (by rw [s0]; omega)⟩, fun s hs => absurd hs (by rw [s0]; omega)⟩, ⟨fun i hi => ⟨?_, ?_⟩, fun i j hi hj e => ?_, fun i j hi hj e => ?_⟩, ⟨rfl, fun _ => ⟨rfl, rfl, rfl, rfl, rfl⟩⟩, 0, 0, 0, ⟨by omega, by omega⟩, ⟨rfl, rfl, rfl⟩, ⟨rfl, rfl, rfl⟩, fun i hi => absurd hi (Nat.not_lt_zero _), fun k hk => absurd hk (Nat.not_lt_zero _), fun h => absurd h (Nat.lt_irrefl _), fun i hi => absurd hi (Nat.not_lt_zero _)⟩
  · show 116 ≤ 116 + i
    omega
  · show 116 + i ≤ 136
    omega
  · have e : 116 + i = 116 + j := e
    omega
  · have e : 96 + i = 96 + j := e
    omega
theorem st0_RR (v : Int32) : RR (st0 v) := by
  have e : mI (st0 v) 0 10 = 0 := rfl
  have e85 : mI (st0 v) 45 85 = 0 := rfl
  refine ⟨⟨rfl, fun j hj => ?_⟩, ⟨rfl, fun _ => rfl, fun i j hi => by rw [e85, show (0 : Int32).toInt = 0 from by decide] at hi; omega⟩, ⟨⟨⟨fun _ => rfl, fun _ => rfl⟩, rfl⟩, fun _ => rfl, fun z => absurd rfl z⟩, st0_RH v⟩
  rw [e, show (0 : Int32).toInt = 0 from by decide] at hj
  omega
theorem st0_TVs (v : Int32) : TVs (st0 v) := by
  have z : ∀ k, 44 ≤ k → ∀ j, (st0 v).1 k j = 0 := by
    intro k hk j
    show (if k = 11 ∧ j = 10 then (-1 : Int32) else if k = 6 ∧ j = 8 then v else if k = 7 ∧ j = 2 then 1 else 0) = 0
    rw [if_neg (by omega), if_neg (by omega), if_neg (by omega)]
  refine ⟨TQ_z (z 45 (by decide)), TQ_z (z 48 (by decide)), fun p _ => TQ_z (z 49 (by decide)), fun p _ => TQ_z (z 50 (by decide)), fun p _ => TQ_z (z 51 (by decide)), ?_⟩
  rw [z 45 (by decide), z 45 (by decide)]
  decide
