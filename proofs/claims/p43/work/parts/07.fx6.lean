-- cells
def fx_sbt (G : List fx_T) (a : fx_V) (t : fx_T) : Bool := match t with
  | .inl i => match fx_iv G a with
    | some j => decide (i.1 ≤ j.1) && decide (j.2 ≤ i.2)
    | none => false
  | .inr (.inl i) => match G[a.1]? with
    | some (.inr (.inl j)) => decide (i.1 ≤ j.1) && decide (j.2 ≤ i.2)
    | _ => false
  | .inr (.inr g) => match G[a.1]? with
    | some (.inr (.inr h)) => g == h || (decide (10001 ≤ g) && decide (1 ≤ h) && decide (h ≤ 10000) && decide ((h - 1) / 32 = g - 10001))
    | _ => false
theorem fx_sbt_ok {Y : fx_Y} {ad : List Nat} {G : List fx_T} {r : List Value} {a : fx_V} {v : Value} {t : fx_T} (h : fx_ty Y ad G r) (hv : fx_v r a = some v) (ht : fx_sbt G a t = true) : fx_ok Y.1 ad t v := by
  unfold fx_sbt at ht
  split at ht
  · split at ht
    · rename_i i j hj
      simp at ht
      obtain ⟨x, rfl, h1, h2⟩ := fx_iv_ok h hj hv
      exact ⟨x, rfl, by omega, by omega⟩
    · cases ht
  · split at ht
    · rename_i i j hj
      simp at ht
      obtain ⟨-, x, rfl, h1, h2⟩ := fx_kl h hv hj
      exact ⟨x, rfl, by omega, by omega⟩
    · cases ht
  · split at ht
    · rename_i g o g' hj
      have hr := (fx_kr h hv hj).2
      rw [Bool.or_eq_true] at ht
      rcases ht with ht | ht
      · simp at ht
        subst ht
        exact hr
      · simp only [Bool.and_eq_true, decide_eq_true_eq] at ht
        obtain ⟨⟨⟨h1, h2⟩, h3⟩, h4⟩ := ht
        obtain ⟨q, rfl⟩ : ∃ q, g' = q + 1 := ⟨g' - 1, by omega⟩
        obtain ⟨u, rfl⟩ : ∃ u, g = u + 1 := ⟨g - 1, by omega⟩
        obtain ⟨k, a, r1, r2, r3⟩ := hr
        refine ⟨k, a, r1, Or.inr ⟨by omega, q, by omega, ?_, by simpa using h4⟩, r3⟩
        rcases r2 with ⟨-, r2⟩ | ⟨r2, -⟩
        · exact r2
        · omega
    · cases ht
/-- the group of what a symbol names -/
def fx_gr (G : List fx_T) (a : fx_V) : Option Nat := match G[a.1]? with
  | some (.inr (.inr (g + 1))) => if g < 10000 then some g else none
  | _ => none
theorem fx_gr_ok {G : List fx_T} {a : fx_V} {g : Nat} (h : fx_gr G a = some g) : G[a.1]? = some (.inr (.inr (g + 1))) ∧ g < 10000 := by
  unfold fx_gr at h
  split at h
  · rename_i hG
    split at h
    · rename_i hl; cases h; exact ⟨hG, hl⟩
    · cases h
  · cases h
theorem fx_cell {Y : fx_Y} {ad : List Nat} {G : List fx_T} {r : List Value} {a : fx_V} {v : Value} {g : Nat} {ws : va_W} (h : fx_ty Y ad G r) (hv : fx_v r a = some v) (hG : fx_gr G a = some g) (hw : fx_wo Y ad ws) : ∃ (k b : Nat) (e : va_E) (T : fx_G), v = .ref b ∧ r[a.1]? = some (.ref b) ∧ ws[k]? = some (b, e) ∧ Y.1[k]? = some g ∧ Y.2.1[g]? = some T ∧ fx_okE Y ad T e := by
  obtain ⟨h1, k, b, h2, h3', rfl⟩ := fx_kr h hv (fx_gr_ok hG).1
  have h3 : Y.1[k]? = some g := by
    rcases h3' with ⟨-, q⟩ | ⟨q, -⟩
    · exact q
    · have := (fx_gr_ok hG).2; omega
  have h4 : (ws.map Prod.fst)[k]? = some b := by rw [hw.1]; exact h2
  rw [List.getElem?_map] at h4
  cases h5 : ws[k]? with
  | none => rw [h5] at h4; cases h4
  | some q =>
    obtain ⟨b', e⟩ := q
    rw [h5] at h4
    cases h4
    obtain ⟨g', T, g1, g2, g3⟩ := hw.2 k _ e h5
    rw [h3] at g1
    cases g1
    exact ⟨k, _, e, T, rfl, h1, h5, h3, g2, g3⟩
theorem fx_obj {Y : fx_Y} {ad : List Nat} {ci : Nat} {ts : List fx_T} {e : va_E} (h : fx_okE Y ad (.inl (ci, ts)) e) : ∃ vs, e = .inr (ci, vs) ∧ vs.length = ts.length ∧ ∀ (i : Nat) (t : fx_T), ts[i]? = some t → ∃ v, vs[i]? = some v ∧ fx_ok Y.1 ad t v := by
  unfold fx_okE at h
  split at h
  · rename_i ci' ts' c vs he
    cases he
    obtain ⟨rfl, h2, h3⟩ := h
    exact ⟨vs, rfl, h2, h3⟩
  · rename_i he; cases he
  · cases h
theorem fx_arr {Y : fx_Y} {ad : List Nat} {t0 n : Nat} {pat : List fx_T} {e : va_E} (h : fx_okE Y ad (.inr (t0, n, pat)) e) : ∃ x : fx_A, e = .inl (Y.2.2.1 t0, n, x) ∧ fx_sh t0 x ∧ ∀ (j : Nat) (t : fx_T), j < n → pat[j % pat.length]? = some t → fx_ok Y.1 ad t (fx_el x j) := by
  unfold fx_okE at h
  split at h
  · rename_i he; cases he
  · rename_i t0' n' pat' cA n2 x he
    cases he
    obtain ⟨rfl, rfl, h3, h4⟩ := h
    exact ⟨x, rfl, h3, h4⟩
  · cases h
theorem fx_len_map {ws : va_W} {ad : List Nat} (h : ws.map Prod.fst = ad) {q b : Nat} {e0 e : va_E} (hq : ws[q]? = some (b, e0)) : (ws.set q (b, e)).map Prod.fst = ad := by
  rw [List.map_set, ← h]
  apply List.ext_getElem?
  intro i
  by_cases hi : q = i
  · subst hi
    rw [List.getElem?_set]
    simp only [if_true]
    split
    · rw [List.getElem?_map, hq]; rfl
    · rename_i hl
      rw [List.getElem?_eq_none (by omega)]
  · rw [List.getElem?_set_ne hi]
theorem fx_wo_set {Y : fx_Y} {ad : List Nat} {ws : va_W} {q b g : Nat} {e0 e : va_E} {T : fx_G} (h : fx_wo Y ad ws) (hq : ws[q]? = some (b, e0)) (hg : Y.1[q]? = some g) (hT : Y.2.1[g]? = some T) (he : fx_okE Y ad T e) : fx_wo Y ad (ws.set q (b, e)) := by
  refine ⟨fx_len_map h.1 hq, fun k a e' hk => ?_⟩
  by_cases hi : q = k
  · subst hi
    rw [List.getElem?_set_self (List.getElem?_eq_some_iff.mp hq).1] at hk
    cases hk
    exact ⟨g, T, hg, hT, he⟩
  · rw [List.getElem?_set_ne hi] at hk
    exact h.2 k a e' hk
theorem fx_ok_set {Y : fx_Y} {ad : List Nat} {ci k : Nat} {ts : List fx_T} {vs : List Value} {t : fx_T} {v : Value} (h2 : vs.length = ts.length) (h3 : ∀ (i : Nat) (t : fx_T), ts[i]? = some t → ∃ v, vs[i]? = some v ∧ fx_ok Y.1 ad t v) (ht : ts[k]? = some t) (hv : fx_ok Y.1 ad t v) : fx_okE Y ad (.inl (ci, ts)) (.inr (ci, vs.set k v)) := by
  refine ⟨rfl, by simp [h2], fun i t' hi => ?_⟩
  by_cases e : k = i
  · subst e
    rw [ht] at hi
    cases hi
    exact ⟨v, by rw [List.getElem?_set_self (by have := (List.getElem?_eq_some_iff.mp ht).1; omega)], hv⟩
  · rw [List.getElem?_set_ne e]
    exact h3 i t' hi
theorem fx_sm_set {Y : fx_Y} {md : List (Nat × Nat)} {w0 ws : va_W} {q b ci k : Nat} {vs : List Value} {v : Value} (h : fx_sm Y md w0 ws) (hq : ws[q]? = some (b, .inr (ci, vs))) (hm : (ci, k) ∈ md) : fx_sm Y md w0 (ws.set q (b, .inr (ci, vs.set k v))) := by
  refine ⟨fun k' a c us h0 => ?_, fun k' a g x h0 hg hn => ?_⟩
  · obtain ⟨us', h1, h2⟩ := h.1 k' a c us h0
    by_cases hi : q = k'
    · subst hi
      rw [hq] at h1
      cases h1
      refine ⟨_, by rw [List.getElem?_set_self (List.getElem?_eq_some_iff.mp hq).1], fun i hi => ?_⟩
      rw [List.getElem?_set_ne (fun e : k = i => hi (by rw [← e]; exact hm))]
      exact h2 i hi
    · exact ⟨us', by rw [List.getElem?_set_ne hi]; exact h1, h2⟩
  · have h1 := h.2 k' a g x h0 hg hn
    by_cases hi : q = k'
    · subst hi
      rw [hq] at h1
      cases h1
    · rw [List.getElem?_set_ne hi]; exact h1
theorem fx_sm_arr {Y : fx_Y} {md : List (Nat × Nat)} {w0 ws : va_W} {q b g : Nat} {x0 x : ClassId × vp_A} (h : fx_sm Y md w0 ws) (hq : ws[q]? = some (b, .inl x0)) (hg : Y.1[q]? = some g) (hm : (1000, g) ∈ md) : fx_sm Y md w0 (ws.set q (b, .inl x)) := by
  refine ⟨fun k' a c us h0 => ?_, fun k' a g' y h0 hg' hn => ?_⟩
  · obtain ⟨us', h1, h2⟩ := h.1 k' a c us h0
    by_cases hi : q = k'
    · subst hi
      rw [hq] at h1
      cases h1
    · exact ⟨us', by rw [List.getElem?_set_ne hi]; exact h1, h2⟩
  · have h1 := h.2 k' a g' y h0 hg' hn
    by_cases hi : q = k'
    · subst hi
      rw [hg] at hg'
      cases hg'
      exact absurd hm hn
    · rw [List.getElem?_set_ne hi]; exact h1
/-- the facts that a store at places lo .. hi of a cell of group g leaves -/
def fx_kf (G : List fx_T) (g : Nat) (lo hi : Nat) (F : List fx_F) : List fx_F := F.filter fun f => decide (f.2.1 < lo) || decide (hi < f.2.1) || (match fx_gr G (f.1, 0) with
  | some g' => !(g' == g)
  | none => false)
theorem fx_kf_ok {Y : fx_Y} {ad : List Nat} {G : List fx_T} {r : List Value} {A : Nat → Prop} {g lo hi q b : Nat} {ws : va_W} {F : List fx_F} {e0 e : va_E} (ht : fx_ty Y ad G r) (hw : fx_wo Y ad ws) (hD : va_D A ws) (hF : ∀ f ∈ F, fx_fa r ws f) (hq : ws[q]? = some (b, e0)) (hg : Y.1[q]? = some g) (hs : ∀ i v, (i < lo ∨ hi < i) → fx_at e0 i = some v → fx_at e i = some v) : ∀ f ∈ fx_kf G g lo hi F, fx_fa r (ws.set q (b, e)) f := by
  intro f hf
  obtain ⟨m1, m2⟩ := List.mem_filter.mp hf
  obtain ⟨a, k, e', v, h1, h2, h3, h4⟩ := hF f m1
  by_cases hi' : q = k
  · subst hi'
    rw [hq] at h2
    cases h2
    by_cases c : f.2.1 < lo ∨ hi < f.2.1
    · exact ⟨b, q, e, v, h1, by rw [List.getElem?_set_self (List.getElem?_eq_some_iff.mp hq).1], hs _ _ c h3, h4⟩
    · simp only [Bool.or_eq_true, decide_eq_true_eq] at m2
      rcases m2 with m2 | m2
      · exact absurd m2 c
      · split at m2
        · rename_i g' hg'
          obtain ⟨k2, b2, e2, T, z1, z2, z3, z4, -⟩ := fx_cell (a := (f.1, 0)) (v := .ref b) ht (fx_v_0 h1) hg' hw
          cases z1
          have := hD.1 _ _ _ _ z3 hq rfl
          subst this
          rw [hg] at z4
          cases z4
          simp at m2
        · cases m2
  · exact ⟨a, k, e', v, h1, by rw [List.getElem?_set_ne hi']; exact h2, h3, h4⟩
