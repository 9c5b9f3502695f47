-- measures
def fx_B : Nat := 1099511627776
def fx_mc (r : List Value) (q : Nat × Nat) : Nat := match q.1 with
  | 0 => q.2
  | 1 => match r[q.2]? with
    | some (.int x) => (2147483648 - x.toInt).toNat
    | _ => 0
  | _ => match r[q.2]? with
    | some (.int x) => (x.toInt + 2147483648).toNat
    | _ => 0
def fx_mv (r : List Value) : List (Nat × Nat) → Nat
  | [] => 0
  | q :: l => fx_mc r q * fx_B ^ l.length + fx_mv r l
def fx_mb (l : List (Nat × Nat)) : Bool := l.all fun q => !(q.1 == 0) || decide (q.2 < fx_B)
theorem fx_mc_lt {r : List Value} {q : Nat × Nat} (h : (!(q.1 == 0) || decide (q.2 < fx_B)) = true) : fx_mc r q < fx_B := by
  unfold fx_mc
  have hB : fx_B = 1099511627776 := rfl
  split
  · rename_i h0
    rw [h0] at h
    simpa using h
  · split
    · rename_i x hx
      have := fx_r32 x
      unfold fx_lo32 fx_hi32 at this
      omega
    · omega
  · split
    · rename_i x hx
      have := fx_r32 x
      unfold fx_lo32 fx_hi32 at this
      omega
    · omega
theorem fx_mv_lt {r : List Value} : ∀ (l : List (Nat × Nat)), fx_mb l = true → fx_mv r l < fx_B ^ l.length
  | [], _ => by simp [fx_mv]
  | q :: l, h => by
    unfold fx_mb at h
    rw [List.all_cons, Bool.and_eq_true] at h
    have h1 := fx_mc_lt (r := r) h.1
    have h2 := fx_mv_lt (r := r) l h.2
    simp only [fx_mv, List.length_cons]
    have h3 : (fx_mc r q + 1) * fx_B ^ l.length ≤ fx_B * fx_B ^ l.length := Nat.mul_le_mul_right _ h1
    rw [Nat.pow_succ, Nat.mul_comm (fx_B ^ l.length)]
    rw [Nat.add_mul] at h3
    omega
theorem fx_mv_a {r r' : List Value} {q q' : Nat × Nat} {l l' : List (Nat × Nat)} (hl : l.length = l'.length) (hb : fx_mb l' = true) (h : fx_mc r' q' < fx_mc r q) : fx_mv r' (q' :: l') < fx_mv r (q :: l) := by
  have h2 := fx_mv_lt (r := r') l' hb
  simp only [fx_mv]
  rw [hl]
  have h3 : (fx_mc r' q' + 1) * fx_B ^ l'.length ≤ fx_mc r q * fx_B ^ l'.length := Nat.mul_le_mul_right _ h
  rw [Nat.add_mul] at h3
  omega
theorem fx_mv_b {r r' : List Value} {q q' : Nat × Nat} {l l' : List (Nat × Nat)} (hl : l.length = l'.length) (h : fx_mc r' q' = fx_mc r q) (h2 : fx_mv r' l' < fx_mv r l) : fx_mv r' (q' :: l') < fx_mv r (q :: l) := by
  simp only [fx_mv]
  rw [hl, h]
  omega
def fx_nw (G : List fx_T) (v : fx_V) : Bool := match G[v.1]? with
  | some (.inl i) => decide (fx_lo32 ≤ i.1 + v.2) && decide (i.2 + v.2 ≤ fx_hi32)
  | _ => false
def fx_ml (G : List fx_T) (n0 : Nat) (ts : List fx_V) : List (Nat × Nat) → List (Nat × Nat) → Bool
  | q :: l, q' :: l' => decide (l.length = l'.length) && (q.1 == q'.1) && (match q.1 with
    | 0 => decide (q'.2 < q.2) || (q'.2 == q.2 && fx_ml G n0 ts l l')
    | k + 1 => match ts[q'.2]? with
      | some v => decide (v.1 = q.2) && decide (q.2 < n0) && fx_nw G v && (if k = 0 then decide (0 < v.2) || (decide (v.2 = 0) && fx_ml G n0 ts l l') else decide (v.2 < 0) || (decide (v.2 = 0) && fx_ml G n0 ts l l'))
      | none => false)
  | _, _ => false
theorem fx_nw_ok {Y : fx_Y} {ad : List Nat} {G : List fx_T} {r : List Value} {v : fx_V} {u : Value} (h : fx_ty Y ad G r) (hn : fx_nw G v = true) (hv : fx_v r v = some u) : ∃ x y : Int32, r[v.1]? = some (.int x) ∧ u = .int y ∧ y.toInt = x.toInt + v.2 := by
  unfold fx_nw at hn
  split at hn
  · rename_i i hi
    simp at hn
    obtain ⟨z, g1, x, rfl, g2, g3⟩ := h.2 _ _ hi
    unfold fx_v at hv
    rw [g1] at hv
    cases hv
    exact ⟨x, _, g1, rfl, fx_addI (by omega) (by omega)⟩
  · cases hn
theorem fx_ml_ok {Y : fx_Y} {ad : List Nat} {G : List fx_T} {r0 w rt : List Value} {n0 : Nat} {ts : List fx_V} (ht : fx_ty Y ad G (r0 ++ w)) (hn : r0.length = n0) (hs : fx_st (r0 ++ w) ts rt) : ∀ (l l' : List (Nat × Nat)), fx_mb l' = true → fx_ml G n0 ts l l' = true → fx_mv rt l' < fx_mv r0 l
  | [], _, _, h => by simp [fx_ml] at h
  | _ :: _, [], _, h => by simp [fx_ml] at h
  | q :: l, q' :: l', hb, h => by
    have hb' : fx_mb l' = true := by unfold fx_mb at hb ⊢; rw [List.all_cons, Bool.and_eq_true] at hb; exact hb.2
    simp only [fx_ml, Bool.and_eq_true, decide_eq_true_eq, beq_iff_eq] at h
    obtain ⟨⟨h1, h2⟩, h3⟩ := h
    split at h3
    · rename_i hq
      have hq' : q'.1 = 0 := by rw [← h2]; exact hq
      have e1 : fx_mc rt q' = q'.2 := by unfold fx_mc; simp only [hq']
      have e2 : fx_mc r0 q = q.2 := by unfold fx_mc; simp only [hq]
      simp only [Bool.or_eq_true, Bool.and_eq_true, decide_eq_true_eq, beq_iff_eq] at h3
      rcases h3 with h3 | ⟨h3, h4⟩
      · exact fx_mv_a h1 hb' (by rw [e1, e2]; exact h3)
      · exact fx_mv_b h1 (by rw [e1, e2]; exact h3) (fx_ml_ok ht hn hs l l' hb' h4)
    · rename_i k hq
      split at h3
      · rename_i v hv
        simp only [Bool.and_eq_true, decide_eq_true_eq] at h3
        obtain ⟨⟨⟨h4, h5⟩, h6⟩, h7⟩ := h3
        obtain ⟨u, u1, u2⟩ := fx_st_get hs hv
        obtain ⟨x, y, y1, rfl, y2⟩ := fx_nw_ok ht h6 u2
        have x0 : r0[q.2]? = some (.int x) := by
          rw [h4, List.getElem?_append_left (by omega)] at y1
          exact y1
        have rx := fx_r32 x
        have ry := fx_r32 y
        unfold fx_lo32 fx_hi32 at rx ry
        have hq' : q'.1 = k + 1 := by rw [← h2]; exact hq
        cases k with
        | zero =>
          have e1 : fx_mc rt q' = (2147483648 - y.toInt).toNat := by unfold fx_mc; rw [hq']; simp only [u1]
          have e2 : fx_mc r0 q = (2147483648 - x.toInt).toNat := by unfold fx_mc; rw [hq]; simp only [x0]
          simp only [if_true, Bool.or_eq_true, Bool.and_eq_true, decide_eq_true_eq] at h7
          rcases h7 with h7 | ⟨h7, h8⟩
          · exact fx_mv_a h1 hb' (by rw [e1, e2]; omega)
          · exact fx_mv_b h1 (by rw [e1, e2]; omega) (fx_ml_ok ht hn hs l l' hb' h8)
        | succ k =>
          have e1 : fx_mc rt q' = (y.toInt + 2147483648).toNat := by unfold fx_mc; rw [hq']; simp only [u1]
          have e2 : fx_mc r0 q = (x.toInt + 2147483648).toNat := by unfold fx_mc; rw [hq]; simp only [x0]
          simp only [Nat.add_one_ne_zero, if_false, Bool.or_eq_true, Bool.and_eq_true, decide_eq_true_eq] at h7
          rcases h7 with h7 | ⟨h7, h8⟩
          · exact fx_mv_a h1 hb' (by rw [e1, e2]; omega)
          · exact fx_mv_b h1 (by rw [e1, e2]; omega) (fx_ml_ok ht hn hs l l' hb' h8)
      · cases h3
-- heads of loops
abbrev fx_N : Type := Nat × List (Nat × fx_T) × List fx_Q × List (Nat × Nat) × List (Nat × Nat)
def fx_ix : Nat → List (Nat × fx_T) → fx_L
  | _, [] => []
  | n, q :: l => (q.1, (n, 0)) :: fx_ix (n + 1) l
def fx_fx : Nat → List fx_Q → List fx_F
  | _, [] => []
  | n, q :: l => (q.1.1, q.1.2, (n, 0)) :: fx_fx (n + 1) l
def fx_nst (N : fx_N) : fx_S := (N.2.1.map Prod.snd ++ N.2.2.1.map Prod.snd, fx_ix 0 N.2.1, [], fx_fx N.2.1.length N.2.2.1)
def fx_lcs (g : fx_S) : List (Nat × fx_T) → Option (List fx_V)
  | [] => some []
  | q :: l => match g.2.1.find? (fun u => u.1 == q.1) with
    | some u => if fx_sbt g.1 u.2 q.2 = true then (match fx_lcs g l with
      | some ts => some (u.2 :: ts)
      | none => none) else none
    | none => none
theorem fx_lcs_ok {Y : fx_Y} {ad : List Nat} {nL : Nat} {g : fx_S} {r : List Value} {ws : va_W} {ls : Array Slot} {st : List Value} (hg : fx_g Y ad nL g r ws ls st) : ∀ (l : List (Nat × fx_T)) (ts : List fx_V), fx_lcs g l = some ts → ∃ rt, fx_st r ts rt ∧ fx_ty Y ad (l.map Prod.snd) rt ∧ ∀ (i p : Nat) (t : fx_T), l[i]? = some (p, t) → ∃ v, rt[i]? = some v ∧ ls[p]? = some (.val v)
  | [], ts, h => by
    simp only [fx_lcs, Option.some.injEq] at h
    subst h
    exact ⟨[], rfl, ⟨rfl, fun i t h => by simp at h⟩, fun i p t h => by simp at h⟩
  | q :: l, ts, h => by
    simp only [fx_lcs] at h
    split at h
    · rename_i u hu
      split at h
      · rename_i hsb
        split at h
        case h_2 => cases h
        rename_i ts' hts
        cases h
        obtain ⟨rt, h1, h2, h3⟩ := fx_lcs_ok hg l ts' hts
        obtain ⟨hm, hp⟩ := fx_find hu
        obtain ⟨v, v1, v2⟩ := hg.2.1.2.2 u hm
        have hv := fx_sbt_ok hg.1 v1 hsb
        refine ⟨v :: rt, fx_st_push v1 h1, ⟨by simp [h2.1], fun i t hi => ?_⟩, fun i p t hi => ?_⟩
        · cases i with
          | zero => simp at hi; subst hi; exact ⟨v, rfl, hv⟩
          | succ i => simpa using h2.2 i t (by simpa using hi)
        · cases i with
          | zero => simp at hi; obtain ⟨a, b⟩ := q; cases hi; exact ⟨v, rfl, by have hp' : u.1 = p := hp; rw [← hp']; exact v2⟩
          | succ i => simpa using h3 i p t (by simpa using hi)
      · cases h
    · cases h
theorem fx_fs_pre {Y : fx_Y} {ad : List Nat} {ws : va_W} : ∀ (l : List fx_Q) (r r' : List Value), fx_fs Y ad ws r l r' → ∃ w, r' = r ++ w
  | [], r, r', h => ⟨[], by rw [List.append_nil]; exact h⟩
  | q :: l, r, r', h => by
    obtain ⟨a, k, e, v, -, -, -, -, h5⟩ := h
    obtain ⟨w, rfl⟩ := fx_fs_pre l _ _ h5
    exact ⟨[v] ++ w, by rw [List.append_assoc]⟩
theorem fx_fs_ty {Y : fx_Y} {ad : List Nat} {ws : va_W} : ∀ (l : List fx_Q) (G : List fx_T) (r r' : List Value), fx_ty Y ad G r → fx_fs Y ad ws r l r' → fx_ty Y ad (G ++ l.map Prod.snd) r' ∧ ∀ f ∈ fx_fx G.length l, fx_fa r' ws f
  | [], G, r, r', hG, h => by
    have e : r' = r := h
    subst e
    simp only [List.map_nil, List.append_nil]
    exact ⟨hG, fun f hf => by simp [fx_fx] at hf⟩
  | q :: l, G, r, r', hG, h => by
    obtain ⟨a, k, e, v, h1, h2, h3, h4, h5⟩ := h
    have ih := fx_fs_ty l (G ++ [q.2]) (r ++ [v]) r' (fx_ty_push hG h4) h5
    rw [List.append_assoc] at ih
    refine ⟨ih.1, fun f hf => ?_⟩
    simp only [fx_fx] at hf
    rcases List.mem_cons.mp hf with rfl | hf
    · obtain ⟨w, e'⟩ := fx_fs_pre l _ _ h5
      refine ⟨a, k, e, v, ?_, h2, h3, ?_⟩
      · rw [e']; exact fx_get_mono _ (fx_get_mono _ h1)
      · rw [e']; exact fx_v_mono _ (fx_v_new hG)
    · exact ih.2 f (by rw [List.length_append]; exact hf)
theorem fx_ix_ok {r : List Value} {ls : Array Slot} : ∀ (l : List (Nat × fx_T)) (n : Nat), (∀ (i p : Nat) (t : fx_T), l[i]? = some (p, t) → ∃ v, r[n + i]? = some v ∧ ls[p]? = some (.val v)) → ∀ q ∈ fx_ix n l, ∃ v, fx_v r q.2 = some v ∧ ls[q.1]? = some (.val v)
  | [], n, h, q, hq => by simp [fx_ix] at hq
  | u :: l, n, h, q, hq => by
    simp only [fx_ix] at hq
    rcases List.mem_cons.mp hq with rfl | hq
    · obtain ⟨v, h1, h2⟩ := h 0 u.1 u.2 rfl
      exact ⟨v, fx_v_0 h1, h2⟩
    · refine fx_ix_ok l (n + 1) (fun i p t hi => ?_) q hq
      have := h (i + 1) p t (by simpa using hi)
      rw [show n + 1 + i = n + (i + 1) by omega]
      exact this
