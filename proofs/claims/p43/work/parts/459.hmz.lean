
/-- what holds while a text is read into bank R, seen from the world ws0 before -/
def TI (ws0 w : va_W) (R : Nat) : Prop :=
  (vi w 0 35 = R ∧ vi w 0 34 = vi ws0 0 34) ∧
  (∀ j : Nat, ¬ j = R → vi w 3 j = vi ws0 3 j ∧ vi w 5 j = vi ws0 5 j ∧ vi w 15 j = vi ws0 15 j ∧ vi w 16 j = vi ws0 16 j) ∧
  (∀ j : Nat, (j < 5 * R ∨ 5 * R + 5 ≤ j) → vi w 13 j = vi ws0 13 j) ∧
  (∀ j : Nat, (j < 40 * R ∨ 40 * R + 40 ≤ j) → vi w 14 j = vi ws0 14 j) ∧
  (∀ s k : Nat, (s : Int) < vi w 5 R → (k : Int) < vi w 13 (5 * R + s) → vi w 14 (8 * (5 * R + s) + k) < vi w 3 R) ∧
  FRc ws0 w (560 * R) ∧
  (vi w 18 R = 0 → vi w 0 36 = 560 * (R : Int) ∧ vi w 15 R = vi ws0 15 R ∧ vi w 16 R = vi ws0 16 R ∧ ∀ j : Nat, vi w 21 j = vi ws0 21 j) ∧
  (¬ vi w 18 R = 0 → vi w 15 R = 560 * (R : Int) ∧ 560 * (R : Int) ≤ vi w 16 R ∧ vi w 16 R ≤ 560 * (R : Int) + 560 ∧ wfc (vi w 21) (560 * R) (vi w 16 R).toNat) ∧
  (0 ≤ vi w 4 R ∧ vi w 4 R ≤ 20)
theorem TI_x {ws0 w w' : va_W} {R : Nat} {d : Int} (h : TI ws0 w R) (e35 : vi w' 0 35 = vi w 0 35) (e34 : vi w' 0 34 = vi w 0 34) (e36 : vi w' 0 36 = vi w 0 36) (hd : 0 ≤ d) (a3 : ∀ j : Nat, vi w' 3 j = if j = R then vi w 3 j + d else vi w 3 j) (a4 : 0 ≤ vi w' 4 R ∧ vi w' 4 R ≤ 20) (a5 : ∀ j, vi w' 5 j = vi w 5 j) (a13 : ∀ j, vi w' 13 j = vi w 13 j) (a14 : ∀ j, vi w' 14 j = vi w 14 j) (a15 : ∀ j, vi w' 15 j = vi w 15 j) (a16 : ∀ j, vi w' 16 j = vi w 16 j) (a18 : ∀ j, vi w' 18 j = vi w 18 j) (a21 : ∀ j, vi w' 21 j = vi w 21 j) : TI ws0 w' R := by
  obtain ⟨⟨h1, h2⟩, h3, h4, h5, h6, h7, h8, h9, h10⟩ := h
  have e21 : vi w' 21 = vi w 21 := funext a21
  refine ⟨⟨by omega, by omega⟩, fun j hj => ?_, fun j hj => by rw [a13]; exact h4 j hj, fun j hj => by rw [a14]; exact h5 j hj, fun s k hs hk => ?_, fun j hj => by rw [a21]; exact h7 j hj, fun q => ?_, fun q => ?_, a4⟩
  · rw [a3, if_neg hj, a5, a15, a16]; exact h3 j hj
  · rw [a5] at hs
    rw [a13] at hk
    rw [a14, a3, if_pos rfl]
    have := h6 s k hs hk
    omega
  · rw [a18] at q
    rw [a15, a16, e36]
    obtain ⟨q1, q2, q3, q4⟩ := h8 q
    exact ⟨q1, q2, q3, fun j => by rw [a21]; exact q4 j⟩
  · rw [a18] at q
    rw [a15, a16, e21]
    exact h9 q
theorem TI_slip {ws0 w w' : va_W} {R S : Nat} {z : Int} (hR : R < 2) (h13 : ∀ j : Nat, j < 10 → vi w 13 j ≤ 8) (h : TI ws0 w R) (e35 : vi w' 0 35 = vi w 0 35) (e34 : vi w' 0 34 = vi w 0 34) (e36 : vi w' 0 36 = vi w 0 36) (hS : (S : Int) = 5 * (R : Int) + vi w 5 R) (hS5 : 0 ≤ vi w 5 R ∧ vi w 5 R ≤ 4) (hz : 0 ≤ z ∧ z ≤ 8) (a3 : ∀ j, vi w' 3 j = vi w 3 j) (a4 : ∀ j, vi w' 4 j = vi w 4 j) (a5 : ∀ j : Nat, vi w' 5 j = if j = R then vi w 5 j + 1 else vi w 5 j) (a13 : ∀ j : Nat, vi w' 13 j = if j = S then z else vi w 13 j) (a14 : ∀ j : Nat, (j < 8 * S ∨ 8 * S + 8 ≤ j) → vi w' 14 j = vi w 14 j) (b14 : ∀ k : Nat, (k : Int) < z → vi w' 14 (8 * S + k) < vi w 3 R) (a15 : ∀ j, vi w' 15 j = vi w 15 j) (a16 : ∀ j, vi w' 16 j = vi w 16 j) (a18 : ∀ j, vi w' 18 j = vi w 18 j) (a21 : ∀ j, vi w' 21 j = vi w 21 j) : TI ws0 w' R := by
  obtain ⟨⟨h1, h2⟩, h3, h4, h5, h6, h7, h8, h9, h10⟩ := h
  have e21 : vi w' 21 = vi w 21 := funext a21
  refine ⟨⟨by omega, by omega⟩, fun j hj => ?_, fun j hj => ?_, fun j hj => ?_, fun s k hs hk => ?_, fun j hj => by rw [a21]; exact h7 j hj, fun q => ?_, fun q => ?_, by rw [a4]; exact h10⟩
  · rw [a3, a5, if_neg hj, a15, a16]; exact h3 j hj
  · rw [a13, if_neg (by omega)]; exact h4 j hj
  · rw [a14 j (by omega)]; exact h5 j hj
  · rw [a5, if_pos rfl] at hs
    rw [a3]
    by_cases e : 5 * R + s = S
    · rw [a13, if_pos e] at hk
      rw [e]
      exact b14 k hk
    · rw [a13, if_neg e] at hk
      have hk8 := h13 (5 * R + s) (by omega)
      rw [a14 _ (by omega)]
      exact h6 s k (by omega) hk
  · rw [a18] at q
    rw [a15, a16, e36]
    obtain ⟨q1, q2, q3, q4⟩ := h8 q
    exact ⟨q1, q2, q3, fun j => by rw [a21]; exact q4 j⟩
  · rw [a18] at q
    rw [a15, a16, e21]
    exact h9 q
theorem TI_miss {ws0 w w' : va_W} {R : Nat} (h : TI ws0 w R) (e35 : vi w' 0 35 = vi w 0 35) (e34 : vi w' 0 34 = vi w 0 34) (a3 : ∀ j, vi w' 3 j = vi w 3 j) (a4 : ∀ j, vi w' 4 j = vi w 4 j) (a5 : ∀ j, vi w' 5 j = vi w 5 j) (a13 : ∀ j, vi w' 13 j = vi w 13 j) (a14 : ∀ j, vi w' 14 j = vi w 14 j) (a15 : ∀ j : Nat, vi w' 15 j = if j = R then 560 * (R : Int) else vi w 15 j) (a16 : ∀ j : Nat, vi w' 16 j = if j = R then vi w' 0 36 else vi w 16 j) (a18 : vi w' 18 R = 1) (fr : FRc w w' (560 * R)) (we : WE w' (560 * R)) : TI ws0 w' R := by
  obtain ⟨⟨h1, h2⟩, h3, h4, h5, h6, h7, h8, h9, h10⟩ := h
  obtain ⟨we1, we2, we3⟩ := we
  refine ⟨⟨by omega, by omega⟩, fun j hj => ?_, fun j hj => by rw [a13]; exact h4 j hj, fun j hj => by rw [a14]; exact h5 j hj, fun s k hs hk => ?_, FRc_tr h7 fr, fun q => by omega, fun q => ?_, by rw [a4]; exact h10⟩
  · rw [a3, a5, a15, if_neg hj, a16, if_neg hj]; exact h3 j hj
  · rw [a5] at hs
    rw [a13] at hk
    rw [a14, a3]
    exact h6 s k hs hk
  · rw [a15, if_pos rfl, a16, if_pos rfl]
    exact ⟨rfl, by omega, by omega, we1⟩

