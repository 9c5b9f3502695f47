-- reading places of cells without a step
def fx_tsub (t t' : fx_T) : Bool := match t, t' with
  | .inl i, .inl j => decide (j.1 ≤ i.1) && decide (i.2 ≤ j.2)
  | .inr (.inl i), .inr (.inl j) => decide (j.1 ≤ i.1) && decide (i.2 ≤ j.2)
  | .inr (.inr g), .inr (.inr h) => g == h
  | _, _ => false
theorem fx_tsub_ok {gs ad : List Nat} {t t' : fx_T} {v : Value} (h : fx_tsub t t' = true) (hv : fx_ok gs ad t v) : fx_ok gs ad t' v := by
  unfold fx_tsub at h
  split at h
  · simp at h
    obtain ⟨x, rfl, h1, h2⟩ := hv
    exact ⟨x, rfl, by omega, by omega⟩
  · simp at h
    obtain ⟨x, rfl, h1, h2⟩ := hv
    exact ⟨x, rfl, by omega, by omega⟩
  · simp at h
    subst h
    exact hv
  · cases h
/-- the type of a place -/
def fx_pt (T : List fx_G) (G : List fx_T) (o : fx_V) (i : Nat) : Option fx_T := match fx_ob T G o with
  | some u => u.2.2[i]?
  | none => match fx_ar T G o with
    | some u => if i < u.2.2.1 then u.2.2.2[i % u.2.2.2.length]? else none
    | none => none
theorem fx_pt_ok {Y : fx_Y} {ad : List Nat} {G : List fx_T} {r : List Value} {o : fx_V} {i : Nat} {t : fx_T} {v0 : Value} {ws : va_W} (h : fx_ty Y ad G r) (hv : fx_v r o = some v0) (hp : fx_pt Y.2.1 G o i = some t) (hw : fx_wo Y ad ws) : ∃ (a k : Nat) (e : va_E) (v : Value), v0 = .ref a ∧ r[o.1]? = some (.ref a) ∧ ws[k]? = some (a, e) ∧ fx_at e i = some v ∧ fx_ok Y.1 ad t v := by
  unfold fx_pt at hp
  split at hp
  · rename_i u hu
    obtain ⟨k, b, vs, rfl, z2, z3, z4, z5, z6, z7⟩ := fx_ob_ok h hv hu hw
    obtain ⟨v, y1, y2⟩ := z7 _ _ hp
    exact ⟨b, k, _, v, rfl, z2, z3, y1, y2⟩
  · split at hp
    · rename_i u hu
      split at hp
      · rename_i hi
        obtain ⟨k, b, z, rfl, z2, z3, z4, z5, z6, z7⟩ := fx_ar_ok h hv hu hw
        exact ⟨b, k, _, fx_el z i, rfl, z2, z3, by simp only [fx_at, if_pos hi], z7 i t hi hp⟩
      · cases hp
    · cases hp
def fx_en (T : List fx_G) (g : fx_S) (o : fx_V) (i : Nat) : Option (fx_S × fx_V) := match g.2.2.2.find? (fun f => f.1 == o.1 && f.2.1 == i) with
  | some f => some (g, f.2.2)
  | none => match fx_pt T g.1 o i with
    | some t => some ((g.1 ++ [t], g.2.1, g.2.2.1, (o.1, i, (g.1.length, 0)) :: g.2.2.2), (g.1.length, 0))
    | none => none
theorem fx_en_ok {Y : fx_Y} {ad : List Nat} {nL : Nat} {A : Nat → Prop} {g : fx_S} {r : List Value} {ws : va_W} {ls : Array Slot} {st : List Value} {o : fx_V} {i : Nat} {q : fx_S × fx_V} {a0 : Nat} (hg : fx_g Y ad nL g r ws ls st) (hw : fx_wo Y ad ws) (hr : r[o.1]? = some (.ref a0)) (h : fx_en Y.2.1 g o i = some q) : ∃ (w : List Value) (k : Nat) (e : va_E) (v : Value), fx_g Y ad nL q.1 (r ++ w) ws ls st ∧ ws[k]? = some (a0, e) ∧ fx_at e i = some v ∧ fx_v (r ++ w) q.2 = some v := by
  unfold fx_en at h
  split at h
  · rename_i f hf
    cases h
    have hfm := List.mem_of_find?_eq_some hf
    have hfe := List.find?_some hf
    simp at hfe
    obtain ⟨b', k', e', v, y1, y2, y3, y4⟩ := hg.2.2.2 f hfm
    rw [hfe.1, hr] at y1
    cases y1
    rw [hfe.2] at y3
    exact ⟨[], k', e', v, by rw [List.append_nil]; exact hg, y2, y3, by rw [List.append_nil]; exact y4⟩
  · split at h
    · rename_i t ht
      cases h
      have hv0 : fx_v r o = some (.ref a0) := by unfold fx_v; rw [hr]
      obtain ⟨b, k, e, v, y0, y1, y2, y3, y4⟩ := fx_pt_ok hg.1 hv0 ht hw
      cases y0
      refine ⟨[v], k, e, v, ⟨fx_ty_push hg.1 y4, fx_lo_mono _ hg.2.1, fx_st_mono _ hg.2.2.1, fun f hf => ?_⟩, y2, y3, fx_v_new hg.1⟩
      rcases List.mem_cons.mp hf with rfl | hf
      · exact ⟨a0, k, e, v, fx_get_mono _ y1, y2, y3, fx_v_new hg.1⟩
      · exact fx_fa_mono _ (hg.2.2.2 f hf)
    · cases h
/-- places told one after the other; ts: the values so far -/
def fx_el1 (T : List fx_G) : fx_S → List fx_V → List fx_Q → Option (fx_S × List fx_V)
  | g, ts, [] => some (g, ts)
  | g, ts, q :: l => match ts[q.1.1]? with
    | some o => match fx_gr g.1 o, fx_en T g o q.1.2 with
      | some _, some u => if fx_sbt u.1.1 u.2 q.2 = true then fx_el1 T u.1 (ts ++ [u.2]) l else none
      | _, _ => none
    | none => none
theorem fx_st_get {r : List Value} {S : List fx_V} {st : List Value} {i : Nat} {a : fx_V} (h : fx_st r S st) (hi : S[i]? = some a) : ∃ v, st[i]? = some v ∧ fx_v r a = some v := by
  have h1 : (S.map (fx_v r))[i]? = some (fx_v r a) := by rw [List.getElem?_map, hi]; rfl
  rw [h, List.getElem?_map] at h1
  cases h2 : st[i]? with
  | none => rw [h2] at h1; cases h1
  | some v => rw [h2] at h1; exact ⟨v, rfl, (Option.some.inj h1).symm⟩
theorem fx_st_app {r : List Value} {S S' : List fx_V} {st st' : List Value} (h : fx_st r S st) (h' : fx_st r S' st') : fx_st r (S ++ S') (st ++ st') := by
  unfold fx_st at *
  rw [List.map_append, List.map_append, h, h']
theorem fx_el1_ok {Y : fx_Y} {ad : List Nat} {nL : Nat} {A : Nat → Prop} {ws : va_W} {ls : Array Slot} {st : List Value} (hw : fx_wo Y ad ws) (hD : va_D A ws) : ∀ (l : List fx_Q) (g : fx_S) (ts : List fx_V) (q : fx_S × List fx_V) (r rt : List Value), fx_g Y ad nL g r ws ls st → fx_st r ts rt → fx_el1 Y.2.1 g ts l = some q → ∃ (w rt' : List Value), fx_g Y ad nL q.1 (r ++ w) ws ls st ∧ fx_fs Y ad ws rt l rt' ∧ fx_st (r ++ w) q.2 rt'
  | [], g, ts, q, r, rt, hg, ht, h => by
    simp only [fx_el1, Option.some.injEq] at h
    subst h
    exact ⟨[], rt, by rw [List.append_nil]; exact hg, rfl, by rw [List.append_nil]; exact ht⟩
  | x :: l, g, ts, q, r, rt, hg, ht, h => by
    simp only [fx_el1] at h
    split at h
    · rename_i o ho
      split at h
      · rename_i gg u hgg hu
        split at h
        · rename_i hsb
          obtain ⟨v0, y1, y2⟩ := fx_st_get ht ho
          obtain ⟨k0, b, e0, T0, rfl, y4, -⟩ := fx_cell hg.1 y2 hgg hw
          obtain ⟨w, k, e, v, z1, z2, z3, z4⟩ := fx_en_ok (A := A) hg hw y4 hu
          have hv := fx_sbt_ok z1.1 z4 hsb
          obtain ⟨w2, rt', g1, g2, g3⟩ := fx_el1_ok hw hD l u.1 (ts ++ [u.2]) q (r ++ w) (rt ++ [v]) z1 (fx_st_app (fx_st_mono _ ht) (fx_st_push z4 rfl)) h
          rw [List.append_assoc] at g1 g3
          exact ⟨w ++ w2, rt', g1, ⟨b, k, e, v, y1, z2, z3, hv, g2⟩, g3⟩
        · cases h
      · cases h
    · cases h
/-- places that are known now, as new symbols -/
def fx_ad1 : fx_S → List fx_V → List fx_Q → Option fx_S
  | g, _, [] => some g
  | g, ts, q :: l => match ts[q.1.1]? with
    | some o => match fx_gr g.1 o with
      | some _ => fx_ad1 (g.1 ++ [q.2], g.2.1, g.2.2.1, (o.1, q.1.2, (g.1.length, 0)) :: g.2.2.2) (ts ++ [(g.1.length, 0)]) l
      | none => none
    | none => none
theorem fx_ad1_ok {Y : fx_Y} {ad : List Nat} {nL : Nat} {ws : va_W} {ls : Array Slot} {st : List Value} (hw : fx_wo Y ad ws) : ∀ (l : List fx_Q) (g : fx_S) (ts : List fx_V) (g' : fx_S) (r rt rt' : List Value), fx_g Y ad nL g r ws ls st → fx_st r ts rt → fx_fs Y ad ws rt l rt' → fx_ad1 g ts l = some g' → ∃ w : List Value, fx_g Y ad nL g' (r ++ w) ws ls st
  | [], g, ts, g', r, rt, rt', hg, ht, hf, h => by
    simp only [fx_ad1, Option.some.injEq] at h
    subst h
    exact ⟨[], by rw [List.append_nil]; exact hg⟩
  | x :: l, g, ts, g', r, rt, rt', hg, ht, hf, h => by
    simp only [fx_ad1] at h
    split at h
    · rename_i o ho
      split at h
      · rename_i gg hgg
        obtain ⟨a, k, e, v, f1, f2, f3, f4, f5⟩ := hf
        obtain ⟨v0, y1, y2⟩ := fx_st_get ht ho
        rw [f1] at y1
        cases y1
        obtain ⟨k0, b, e0, T0, y0, y4, -⟩ := fx_cell hg.1 y2 hgg hw
        cases y0
        have hp : fx_g Y ad nL (g.1 ++ [x.2], g.2.1, g.2.2.1, (o.1, x.1.2, (g.1.length, 0)) :: g.2.2.2) (r ++ [v]) ws ls st := by
          refine ⟨fx_ty_push hg.1 f4, fx_lo_mono _ hg.2.1, fx_st_mono _ hg.2.2.1, fun f hf => ?_⟩
          rcases List.mem_cons.mp hf with rfl | hf
          · exact ⟨a, k, e, v, fx_get_mono _ y4, f2, f3, fx_v_new hg.1⟩
          · exact fx_fa_mono _ (hg.2.2.2 f hf)
        obtain ⟨w, hz⟩ := fx_ad1_ok hw l _ _ g' (r ++ [v]) (rt ++ [v]) rt' hp (fx_st_app (fx_st_mono _ ht) (fx_st_push (S := []) (st := []) (fx_v_new hg.1) rfl)) f5 h
        rw [List.append_assoc] at hz
        exact ⟨[v] ++ w, hz⟩
      · cases h
    · cases h
