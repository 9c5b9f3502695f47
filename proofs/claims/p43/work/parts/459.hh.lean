
-- the rule's stack: how it goes on, pure
theorem EI_congr {w w' : va_W} {f : Nat} {m : Int} (h36 : vi w' 0 36 = vi w 0 36) (h37 : vi w' 0 37 = vi w 0 37) (h38 : vi w' 0 38 = vi w 0 38) (h39 : vi w' 0 39 = vi w 0 39) (a21 : ∀ j, vi w' 21 j = vi w 21 j) (a23 : ∀ j, vi w' 23 j = vi w 23 j) (a24 : ∀ j, vi w' 24 j = vi w 24 j) (h : EI w f m) : EI w' f m := by
  have e1 : vi w' 21 = vi w 21 := funext a21
  have e2 : vi w' 23 = vi w 23 := funext a23
  have e3 : vi w' 24 = vi w 24 := funext a24
  unfold EI at h ⊢
  rw [e1, e2, e3, h36, h37, h38, h39]
  exact h
theorem EI_fr {cy : Nat → ClassId} {ad : List Nat} {md : List (Nat × Nat)} {w w' : va_W} {f : Nat} {m : Int} (hw : fx_wo (gsM, TM, cy, fun _ => True) ad w) (hw' : fx_wo (gsM, TM, cy, fun _ => True) ad w') (hs : fx_sm (gsM, TM, cy, fun _ => True) md w w') (hm : (12, 36) ∉ md ∧ (12, 37) ∉ md ∧ (12, 38) ∉ md ∧ (12, 39) ∉ md ∧ (1000, 21) ∉ md ∧ (1000, 23) ∉ md ∧ (1000, 24) ∉ md) (h : EI w f m) : EI w' f m :=
  EI_congr (sm_f hw hw' hs hm.1) (sm_f hw hw' hs hm.2.1) (sm_f hw hw' hs hm.2.2.1) (sm_f hw hw' hs hm.2.2.2.1) (fun j => sm_a hw hw' hs TMa_21 hm.2.2.2.2.1) (fun j => sm_a hw hw' hs TMa_23 hm.2.2.2.2.2.1) (fun j => sm_a hw hw' hs TMa_24 hm.2.2.2.2.2.2) h
/-- a letter more -/
theorem EI_unit {w w' : va_W} {f : Nat} {c : Int} (h : EI w f 0) (h36 : vi w' 0 36 = vi w 0 36 + 1) (h37 : vi w' 0 37 = vi w 0 37) (h38 : vi w' 0 38 = vi w 0 38) (h39 : vi w' 0 39 = vi w 0 39 + 1) (hU : vi w 0 39 < 30) (hc : 97 ≤ c ∧ c ≤ 122) (a21 : ∀ j : Nat, vi w' 21 j = if j = (vi w 0 36).toNat then c else vi w 21 j) (a23 : ∀ j, vi w' 23 j = vi w 23 j) (a24 : ∀ j, vi w' 24 j = vi w 24 j) : EI w' f 1 := by
  have e2 : vi w' 23 = vi w 23 := funext a23
  have e3 : vi w' 24 = vi w 24 := funext a24
  unfold EI at h ⊢
  obtain ⟨⟨p1, p2, p3⟩, q1, q2, ⟨w1, w2⟩, ⟨u1, u2⟩, f1, ⟨d1, d2⟩, k1, wf⟩ := h
  have eN : (vi w' 0 36).toNat = (vi w 0 36).toNat + 1 := by omega
  have hb := (cn_b (q := q37) (e := vi w 23) (vi w 0 38).toNat).2.2 (by omega)
  have hb0 := (cn_b (q := q37) (e := vi w 23) (vi w 0 38).toNat).1
  have hd : 0 ≤ dep (vi w 21) f ((vi w 0 36).toNat - f) := by omega
  obtain ⟨k, hk⟩ := wfc_one (c' := vi w' 21) (t := (vi w 0 36).toNat) (x := c) (by omega) a21 wf (by rw [if_pos hc]; omega)
  have hdl : dl c = 1 := by unfold dl; rw [if_pos hc]
  rw [hdl] at hk
  rw [e2, e3, h37, h38, h39, eN, h36, hk]
  refine ⟨⟨p1, p2, p3⟩, q1, q2, ⟨w1, w2⟩, ⟨by omega, by omega⟩, by omega, ⟨by omega, by omega⟩, by omega, k⟩
theorem EI_pushes {w w' : va_W} {f : Nat} {m x y : Int} {d u : Int} (h : EI w f m) (h36 : vi w' 0 36 = vi w 0 36) (h37 : vi w' 0 37 = vi w 0 37 + d) (h38 : vi w' 0 38 = vi w 0 38 + 1) (h39 : vi w' 0 39 = vi w 0 39 + u) (hU : 0 ≤ u ∧ vi w 0 39 + u ≤ 30) (hd : vi w 0 37 + d ≤ 7) (hx : (x = 3 ∧ y = 126 ∧ d = 1 ∧ m = 0) ∨ (x = 7 ∧ d = 1 ∧ m = 0) ∨ ((x = 1 ∨ x = 2 ∨ x = 4 ∨ x = 5 ∨ x = 6) ∧ d = 0 ∧ m = 1 ∧ ¬ (97 ≤ y ∧ y ≤ 122) ∧ ¬ y = 126)) (a21 : ∀ j : Nat, vi w' 21 j = vi w 21 j) (a23 : ∀ j : Nat, vi w' 23 j = if j = (vi w 0 38).toNat then x else vi w 23 j) (a24 : ∀ j : Nat, vi w' 24 j = if j = (vi w 0 38).toNat then y else vi w 24 j) : EI w' f 0 := by
  have e1 : vi w' 21 = vi w 21 := funext a21
  unfold EI at h ⊢
  obtain ⟨⟨p1, p2, p3⟩, q1, q2, ⟨w1, w2⟩, ⟨u1, u2⟩, f1, ⟨d1, d2⟩, k1, wf⟩ := h
  have eP : (vi w' 0 38).toNat = (vi w 0 38).toNat + 1 := by omega
  have c37 : cn q37 (vi w' 23) (vi w 0 38).toNat = cn q37 (vi w 23) (vi w 0 38).toNat := cn_congr (fun j hj => by rw [a23, if_neg (by omega)])
  have c3 : cn q3 (vi w' 23) (vi w 0 38).toNat = cn q3 (vi w 23) (vi w 0 38).toNat := cn_congr (fun j hj => by rw [a23, if_neg (by omega)])
  have t37 : cn q37 (vi w' 23) ((vi w 0 38).toNat + 1) = cn q37 (vi w 23) (vi w 0 38).toNat + d := by
    rw [cn_s (by omega), c37, a23, if_pos rfl]
    rcases hx with ⟨rfl, _, rfl, _⟩ | ⟨rfl, rfl, _⟩ | ⟨hx, rfl, _⟩
    · simp [q37]
    · simp [q37]
    · rcases hx with rfl | rfl | rfl | rfl | rfl <;> simp [q37]
  have t3 : cn q3 (vi w' 23) ((vi w 0 38).toNat + 1) ≤ cn q3 (vi w 23) (vi w 0 38).toNat + d := by
    rw [cn_s (by omega), c3, a23, if_pos rfl]
    rcases hx with ⟨rfl, _, rfl, _⟩ | ⟨rfl, rfl, _⟩ | ⟨hx, rfl, _⟩
    · simp [q3]
    · simp [q3]; omega
    · rcases hx with rfl | rfl | rfl | rfl | rfl <;> simp [q3]
  have hb := (cn_b (q := q37) (e := vi w 23) (vi w 0 38).toNat).2.2 (by omega)
  have hb0 := (cn_b (q := q37) (e := vi w 23) (vi w 0 38).toNat).1
  rw [e1, h36, h37, h39, eP, t37, h38]
  refine ⟨⟨by omega, by omega, by rw [a23, if_neg (by omega)]; exact p3⟩, fun j j1 j2 => ?_, fun j j1 j2 => ?_, ⟨by omega, by omega⟩, ⟨by omega, by omega⟩, by omega, ⟨by omega, by omega⟩, ?_, wf⟩
  · rw [a23]
    by_cases ej : j = (vi w 0 38).toNat
    · rw [if_pos ej]; omega
    · rw [if_neg ej]; exact q1 j j1 (by omega)
  · rw [a23, a24]
    by_cases ej : j = (vi w 0 38).toNat
    · rw [if_pos ej, if_pos ej]; omega
    · rw [if_neg ej, if_neg ej]; exact q2 j j1 (by omega)
  · rcases hx with ⟨_, _, rfl, rfl⟩ | ⟨_, rfl, rfl⟩ | ⟨_, rfl, rfl, _⟩ <;> omega
theorem fs_u {cy : Nat → ClassId} {ad : List Nat} {ws : va_W} {av rt : List Value} {v0 : Value} {q : fx_Q} {l : List fx_Q} (h0 : av[0]? = some v0) (h : fx_fs (gsM, TM, cy, fun _ => True) ad ws av (q :: l) rt) : (∃ rt', fx_fs (gsM, TM, cy, fun _ => True) ad ws av [q] rt') ∧ ∃ av', av'[0]? = some v0 ∧ fx_fs (gsM, TM, cy, fun _ => True) ad ws av' l rt := by
  obtain ⟨a, k, e, v, h1, h2, h3, h4, h5⟩ := h
  refine ⟨⟨_, a, k, e, v, h1, h2, h3, h4, rfl⟩, _, ?_, h5⟩
  have hl : 0 < av.length := by
    rcases av with _ | ⟨x, t⟩
    · simp at h0
    · simp
  rw [List.getElem?_append_left hl]
  exact h0
/-- a sign leaves the stack for the code -/
theorem EI_pop {w w' : va_W} {f k : Nat} {d : Int} (h : EI w f 1) (hk : vi w 0 38 = (k : Int) + 1) (h36 : vi w' 0 36 = vi w 0 36 + 1) (h37 : vi w' 0 37 = vi w 0 37 - d) (h38 : vi w' 0 38 = vi w 0 38 - 1) (h39 : vi w' 0 39 = vi w 0 39) (h6 : vi w 23 k ≤ 6) (hd : (vi w 23 k = 3 ∧ d = 1) ∨ (¬ vi w 23 k = 3 ∧ d = 0)) (a21 : ∀ j : Nat, vi w' 21 j = if j = (vi w 0 36).toNat then vi w 24 k else vi w 21 j) (a23 : ∀ j : Nat, vi w' 23 j = vi w 23 j) (a24 : ∀ j : Nat, vi w' 24 j = vi w 24 j) : EI w' f 1 := by
  have e2 : vi w' 23 = vi w 23 := funext a23
  have e3 : vi w' 24 = vi w 24 := funext a24
  unfold EI at h ⊢
  obtain ⟨⟨p1, p2, p3⟩, q1, q2, ⟨w1, w2⟩, ⟨u1, u2⟩, f1, ⟨d1, d2⟩, k1, wf⟩ := h
  have k0 : 1 ≤ k := by
    rcases Nat.eq_zero_or_pos k with rfl | h
    · omega
    · exact h
  have eP : (vi w 0 38).toNat = k + 1 := by omega
  have eP' : (vi w' 0 38).toNat = k := by omega
  have s37 : cn q37 (vi w 23) (k + 1) = cn q37 (vi w 23) k + d := by
    rw [cn_s k0]
    rcases hd with ⟨x, rfl⟩ | ⟨x, rfl⟩
    · simp [q37, x]
    · have : ¬ vi w 23 k = 7 := by omega
      simp [q37, x, this]
  have s3 : cn q3 (vi w 23) (k + 1) = cn q3 (vi w 23) k + d := by
    rw [cn_s k0]
    rcases hd with ⟨x, rfl⟩ | ⟨x, rfl⟩
    · simp [q3, x]
    · simp [q3, x]
  have hb := (cn_b (q := q37) (e := vi w 23) k).2.2 k0
  have hb0 := (cn_b (q := q37) (e := vi w 23) k).1
  have hs := q2 k k0 (by omega)
  have eN : (vi w' 0 36).toNat = (vi w 0 36).toNat + 1 := by omega
  rw [eP] at w1 k1
  rw [s37] at w1
  rw [s3] at k1
  have hx : if 97 ≤ vi w 24 k ∧ vi w 24 k ≤ 122 then 0 ≤ dep (vi w 21) f ((vi w 0 36).toNat - f) ∧ dep (vi w 21) f ((vi w 0 36).toNat - f) < 60 else if vi w 24 k = 126 then 1 ≤ dep (vi w 21) f ((vi w 0 36).toNat - f) ∧ dep (vi w 21) f ((vi w 0 36).toNat - f) ≤ 60 else 2 ≤ dep (vi w 21) f ((vi w 0 36).toNat - f) ∧ dep (vi w 21) f ((vi w 0 36).toNat - f) ≤ 60 := by
    rcases hd with ⟨x, rfl⟩ | ⟨x, rfl⟩
    · rw [if_neg (by have := hs.1 x; omega), if_pos (hs.1 x)]; omega
    · rw [if_neg (hs.2 (by omega) x).1, if_neg (hs.2 (by omega) x).2]; omega
  have hdl : dl (vi w 24 k) = d - 1 := by
    unfold dl
    rcases hd with ⟨x, rfl⟩ | ⟨x, rfl⟩
    · rw [if_neg (by have := hs.1 x; omega), if_pos (hs.1 x)]; rfl
    · rw [if_neg (hs.2 (by omega) x).1, if_neg (hs.2 (by omega) x).2]; rfl
  obtain ⟨g, hg⟩ := wfc_one (c' := vi w' 21) (t := (vi w 0 36).toNat) (x := vi w 24 k) (by omega) a21 wf hx
  rw [hdl] at hg
  rw [e2, e3, h37, h39, eN, h36, hg, eP', h38]
  refine ⟨⟨by omega, by omega, p3⟩, fun j j1 j2 => q1 j j1 (by omega), fun j j1 j2 => q2 j j1 (by omega), ⟨by omega, by omega⟩, ⟨u1, u2⟩, by omega, ⟨by omega, by omega⟩, by omega, g⟩
/-- a bracket leaves it -/
theorem EI_pop7 {w w' : va_W} {f k : Nat} (h : EI w f 1) (hk : vi w 0 38 = (k : Int) + 1) (h36 : vi w' 0 36 = vi w 0 36) (h37 : vi w' 0 37 = vi w 0 37 - 1) (h38 : vi w' 0 38 = vi w 0 38 - 1) (h39 : vi w' 0 39 = vi w 0 39) (h7 : vi w 23 k = 7) (a21 : ∀ j : Nat, vi w' 21 j = vi w 21 j) (a23 : ∀ j : Nat, vi w' 23 j = vi w 23 j) (a24 : ∀ j : Nat, vi w' 24 j = vi w 24 j) : EI w' f 1 := by
  have e1 : vi w' 21 = vi w 21 := funext a21
  have e2 : vi w' 23 = vi w 23 := funext a23
  have e3 : vi w' 24 = vi w 24 := funext a24
  unfold EI at h ⊢
  obtain ⟨⟨p1, p2, p3⟩, q1, q2, ⟨w1, w2⟩, ⟨u1, u2⟩, f1, ⟨d1, d2⟩, k1, wf⟩ := h
  have k0 : 1 ≤ k := by
    rcases Nat.eq_zero_or_pos k with rfl | h
    · omega
    · exact h
  have eP : (vi w 0 38).toNat = k + 1 := by omega
  have eP' : (vi w' 0 38).toNat = k := by omega
  have s37 : cn q37 (vi w 23) (k + 1) = cn q37 (vi w 23) k + 1 := by rw [cn_s k0]; simp [q37, h7]
  have s3 : cn q3 (vi w 23) (k + 1) = cn q3 (vi w 23) k := by rw [cn_s k0]; simp [q3, h7]
  rw [eP] at w1 k1
  rw [s37] at w1
  rw [s3] at k1
  rw [e1, e2, e3, h37, h39, h36, eP', h38]
  refine ⟨⟨by omega, by omega, p3⟩, fun j j1 j2 => q1 j j1 (by omega), fun j j1 j2 => q2 j j1 (by omega), ⟨by omega, by omega⟩, ⟨u1, u2⟩, by omega, ⟨by omega, by omega⟩, by omega, wf⟩

