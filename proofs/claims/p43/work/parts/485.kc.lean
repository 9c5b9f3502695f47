-- a world told more sharply is one told more loosely
def sbT (t t' : fx_T) : Bool := match t, t' with
  | .inl (a, b), .inl (c, d) => decide (c ≤ a) && decide (b ≤ d)
  | .inr (.inl (a, b)), .inr (.inl (c, d)) => decide (c ≤ a) && decide (b ≤ d)
  | .inr (.inr g), .inr (.inr g') => g == g'
  | _, _ => false
def sbG (G G' : fx_G) : Bool := match G, G' with
  | .inl (c, ts), .inl (c', ts') => c == c' && ts.length == ts'.length && (ts.zip ts').all (fun q => sbT q.1 q.2)
  | .inr (t, n, p), .inr (t', n', p') => t == t' && n == n' && decide (0 < p.length) && p.all (fun x => p'.all (fun y => sbT x y))
  | _, _ => false
def sbW (T T' : List fx_G) : Bool := T.length == T'.length && (T.zip T').all (fun q => sbG q.1 q.2)
theorem sbT_ok {gs ad : List Nat} {t t' : fx_T} {v : Value} (h : sbT t t' = true) (hv : fx_ok gs ad t v) : fx_ok gs ad t' v := by
  rcases t with ⟨a, b⟩ | ⟨a, b⟩ | g <;> rcases t' with ⟨c, d⟩ | ⟨c, d⟩ | g' <;> simp only [sbT, Bool.and_eq_true, decide_eq_true_eq, beq_iff_eq] at h
  · obtain ⟨x, e, h1, h2⟩ := hv
    simp only at h1 h2
    exact ⟨x, e, by simp only; omega, by simp only; omega⟩
  · cases h
  · cases h
  · cases h
  · obtain ⟨x, e, h1, h2⟩ := hv
    simp only at h1 h2
    exact ⟨x, e, by simp only; omega, by simp only; omega⟩
  · cases h
  · cases h
  · cases h
  · subst h; exact hv
theorem zip_at {α β : Type} {a : List α} {b : List β} {i : Nat} {x : α} {y : β} (h1 : a[i]? = some x) (h2 : b[i]? = some y) : (x, y) ∈ a.zip b := by
  have : (a.zip b)[i]? = some (x, y) := by rw [List.getElem?_zip_eq_some]; exact ⟨h1, h2⟩
  exact List.mem_of_getElem? this
theorem sbW_ok {gs ad : List Nat} {T T' : List fx_G} {cy : Nat → ClassId} {I J : va_W → Prop} {ws : va_W} (h : sbW T T' = true) (hw : fx_wo (gs, T, cy, I) ad ws) : fx_wo (gs, T', cy, J) ad ws := by
  simp only [sbW, Bool.and_eq_true, beq_iff_eq] at h
  refine ⟨hw.1, fun k a e hk => ?_⟩
  obtain ⟨g, G, q1, q2, q3⟩ := hw.2 k a e hk
  have hl : g < T'.length := by rw [← h.1]; exact (List.getElem?_eq_some_iff.mp q2).1
  obtain ⟨G', hG'⟩ : ∃ G', T'[g]? = some G' := ⟨T'[g], List.getElem?_eq_getElem hl⟩
  have hs := List.all_eq_true.mp h.2 _ (zip_at q2 hG')
  refine ⟨g, G', q1, hG', ?_⟩
  rcases G with ⟨ci, ts⟩ | ⟨t0, n, pat⟩ <;> rcases G' with ⟨ci', ts'⟩ | ⟨t0', n', pat'⟩ <;> rcases e with ⟨cA, n1, x⟩ | ⟨c, vs⟩ <;> simp only [sbG, Bool.and_eq_true, beq_iff_eq, decide_eq_true_eq] at hs
  · exact q3
  · obtain ⟨⟨rfl, h2⟩, h3⟩ := hs
    obtain ⟨p1, p2, p3⟩ := q3
    refine ⟨p1, by omega, fun i t ht => ?_⟩
    have hi : i < ts.length := by rw [h2]; exact (List.getElem?_eq_some_iff.mp ht).1
    obtain ⟨v, v1, v2⟩ := p3 i ts[i] (List.getElem?_eq_getElem hi)
    exact ⟨v, v1, sbT_ok (List.all_eq_true.mp h3 _ (zip_at (List.getElem?_eq_getElem hi) ht)) v2⟩
  · cases hs
  · cases hs
  · cases hs
  · cases hs
  · obtain ⟨⟨⟨rfl, rfl⟩, h3⟩, h4⟩ := hs
    obtain ⟨p1, p2, p3, p4⟩ := q3
    refine ⟨p1, p2, p3, fun j t hj ht => ?_⟩
    have hm : j % pat.length < pat.length := Nat.mod_lt _ h3
    have h5 := List.all_eq_true.mp h4 _ (List.getElem_mem hm)
    exact sbT_ok (List.all_eq_true.mp h5 t (List.mem_of_getElem? ht)) (p4 j _ hj (List.getElem?_eq_getElem hm))
  · exact q3
-- a call over one closed world beside another
theorem D_comm {A : Nat → Prop} {w1 w2 : va_W} (h : va_D A (w1 ++ w2)) : va_D A (w2 ++ w1) := by
  have := va_D.swap (a := []) (b := w1) (c := w2) (by simpa using h)
  simpa using this
section KC3
variable {l : Launch} {p : Program} {e : Env} {R : Room} {s : State} {m : MethodId} {args : Array Value} {below : List Frame} {meth : Method} {c : Code} {Q : State → Prop} {cc : ByteArray} {nL : Nat} {own : String} {pc : Nat} {st : List Value} {cl sl : Nat}
variable {E : (Nat → Prop) → State → Prop} {cy : Nat → ClassId} {D : va_G} {A : Nat → Prop} {H0 : Heap}
theorem w_call {ws wr : va_W} {H : Heap} {locs : List Loc} {ls : Array Slot} {lv : List (Nat × Value)} (C : gC p s m args c cc nL own) (hE : fx_env E D classes (tys cy) nestW) (hEs : E A s) (hH0 : H0 = s.heap) (hA : ∀ q, H0.size ≤ q → A q) (hl : lv_has ls nL lv) {y : MethodName} {bytes : ByteArray} {maxL fr lo n i b k0 ci : Nat} {ret : Option FieldType} {As rest vs : List Value} {q0 : vw_C} {Qc : Array Value → State → Outcome → State → Prop} {POST : Option Value → va_W → Prop}
    (hM : Met l y (Cond.code y bytes maxL ret :: wsL_law) ({ frames := fr, cells := 0, slots := 0, locals := lo }) (va_Pc (.ref b :: As) (fun U => U.heap.size = H.size ∧ va_P D classes ws U.heap ∧ E (va_A ws H.size) U)) Qc 0 0 (va_A ws H.size))
    (hQ : ∀ a st oc t, Qc a st oc t → (∃ (ws1 : va_W) (rv : Option Value), oc = .returned rv ∧ va_P D classes ws1 t.heap ∧ ws1.map Prod.fst = ws.map Prod.fst ∧ POST rv ws1) ∧ va_F (va_A ws H.size) st t)
    (h3 : fr + 1 ≤ R.frames ∧ 8 + (maxL + 11) + lo ≤ R.locals) (hcl : cl ≤ R.cells ∧ sl ≤ R.slots) (hc : classes[ci]? = some q0) (h5 : y.cls = q0.1 ∧ y.cls ≠ "java/lang/invoke/MethodHandle" ∧ y.cls ≠ "java/lang/invoke/VarHandle" ∧ (parseMethodDescriptor y.desc).map (fun d => d.parameters.length) = some n) (h6 : GoodIn wsL_law (wsV own i q0.1 y (Cond.code y bytes maxL ret :: wsL_law))) (hb : ws[k0]? = some (b, .inr (ci, vs))) (hdg : decode cc pc = .ok (.invokevirtual i, 3)) (hn : As.length = n) (hst : st = As.reverse ++ .ref b :: rest) (hsum : (rest.map fun v => v.category).sum ≤ 8)
    (hP : va_P D classes ws H) (hPr : va_P D classes wr H) (hD : va_D A (ws ++ wr)) (hS : va_S A H0 H locs)
    (kk : ∀ (ws1 : va_W) (rv : Option Value) (H1 : Heap) (locs1 : List Loc), va_P D classes ws1 H1 → va_P D classes wr H1 → va_D A (ws1 ++ wr) → va_S A H0 H1 locs1 → POST rv ws1 → W p l e R s m args below meth c H1 locs1 cl sl Q (F0 m (pc + 3) ls (rv.toList ++ rest))) : W p l e R s m args below meth c H locs cl sl Q (F0 m pc ls st) := by
  have hDs : va_D A ws := ⟨fun i j u v hi hj huv => hD.1 i j u v (fr_at hi) (fr_at hj) huv, fun k q hk => hD.2 k q (fr_at hk)⟩
  have hsub := fx_Asub hA hDs hS
  have hK := (hE.1 _ _ hEs).1
  refine g_callc (A := A) (H0 := H0) (mc := 0) (ms := 0) (A1 := va_A ws H.size) (va_runV (As := As) (rest := rest) (b := b) ⟨C.1, C.2.1, C.2.2.1, C.2.2.2.2.1, C.2.2.2.1⟩ hM (cwV n C.2.2.2.1 h6 rfl rfl rfl h5 h3) ⟨fun a U g mk q => ?_, va_recv hK hP hc hb, fun U hU hW => ?_⟩ rfl hn hl.1 hst (lv_room hsum) hdg ⟨by omega, by omega⟩) hS (fun q _ hq => hsub q hq) hsub (fun st v t h => (hQ _ _ _ _ h).2) (fun v st₀ t H1 locs1 e0 e1 hq hS1 => ?_)
  · obtain ⟨q0, q1, q2, q3⟩ := q
    exact ⟨q0, q1, q2, hE.2.2 _ _ _ _ _ q3⟩
  · exact ⟨rfl, by rw [hU], by rw [hU]; exact hP, hE.2.1 A _ _ _ hW (fun a h1 h2 => by rw [hU]; have := hS.2.1 a (by rw [hH0]; exact h1) h2; rw [this, hH0]) hsub hEs⟩
  · obtain ⟨⟨ws1, rv, e2, p1, p2, p3⟩, hF⟩ := hQ _ _ _ _ hq
    cases e2
    rw [e1] at p1
    have hnA : ∀ (k : Nat) (q : Nat × va_E), wr[k]? = some q → ¬ va_A ws H.size q.1 := fun k q hk hq => by
      have hk2 : (ws ++ wr)[ws.length + k]? = some q := by rw [List.getElem?_append_right (Nat.le_add_right _ _), Nat.add_sub_cancel_left]; exact hk
      rcases hq with ⟨k2, e', hq⟩ | hq
      · have := hD.1 _ _ _ _ (fr_at (pl := wr) hq) hk2 rfl
        have hlt := (List.getElem?_eq_some_iff.mp hq).1
        omega
      · have := (hPr k q hk).lt
        omega
    have hPr1 : va_P D classes wr H1 := hPr.kept (fun k q hk => by rw [← e1, ← e0]; exact hF.2 q.1 (by rw [e0]; exact (hPr k q hk).lt) (hnA k q hk))
    exact kk ws1 v H1 locs1 p1 hPr1 (fx_D_of hD (by rw [List.map_append, List.map_append, p2])) hS1 p3
end KC3
