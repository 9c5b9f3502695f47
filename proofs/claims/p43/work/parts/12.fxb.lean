-- a call
theorem fx_D_of {A : Nat → Prop} {ws ws1 : va_W} (h : va_D A ws) (e : ws1.map Prod.fst = ws.map Prod.fst) : va_D A ws1 := by
  have key : ∀ (k : Nat) (q : Nat × va_E), ws1[k]? = some q → ∃ e', ws[k]? = some (q.1, e') := by
    intro k q hk
    have h1 : (ws1.map Prod.fst)[k]? = some q.1 := by rw [List.getElem?_map, hk]; rfl
    rw [e, List.getElem?_map] at h1
    cases h2 : ws[k]? with
    | none => rw [h2] at h1; cases h1
    | some u =>
      rw [h2] at h1
      obtain ⟨a, e'⟩ := u
      cases h1
      exact ⟨e', rfl⟩
  refine ⟨fun i j x y hi hj hxy => ?_, fun k q hk => ?_⟩
  · obtain ⟨e1, h1⟩ := key i x hi
    obtain ⟨e2, h2⟩ := key j y hj
    exact h.1 i j _ _ h1 h2 hxy
  · obtain ⟨e1, h1⟩ := key k q hk
    exact h.2 k (q.1, e1) h1
theorem fx_sm_tr {Y : fx_Y} {md md' : List (Nat × Nat)} {w0 w1 w2 : va_W} (h1 : fx_sm Y md w0 w1) (h2 : fx_sm Y md' w1 w2) (hs : ∀ q ∈ md', q ∈ md) : fx_sm Y md w0 w2 := by
  refine ⟨fun k a c vs h => ?_, fun k a g x h hg hn => ?_⟩
  · obtain ⟨vs1, a1, a2⟩ := h1.1 k a c vs h
    obtain ⟨vs2, b1, b2⟩ := h2.1 k a c vs1 a1
    exact ⟨vs2, b1, fun i hi => by rw [b2 i (fun q => hi (hs _ q)), a2 i hi]⟩
  · exact h2.2 k a g x (h1.2 k a g x h hg hn) hg (fun q => hn (hs _ q))
theorem fx_st_take {r : List Value} {S : List fx_V} {st : List Value} (n : Nat) (h : fx_st r S st) : fx_st r (S.take n) (st.take n) := by
  unfold fx_st at *
  rw [List.map_take, List.map_take, h]
theorem fx_st_drop {r : List Value} {S : List fx_V} {st : List Value} (n : Nat) (h : fx_st r S st) : fx_st r (S.drop n) (st.drop n) := by
  unfold fx_st at *
  rw [List.map_drop, List.map_drop, h]
theorem fx_st_rev {r : List Value} {S : List fx_V} {st : List Value} (h : fx_st r S st) : fx_st r S.reverse st.reverse := by
  unfold fx_st at *
  rw [List.map_reverse, List.map_reverse, h]
theorem fx_cs_ok {Y : fx_Y} {ad : List Nat} {G : List fx_T} {r : List Value} (hG : fx_ty Y ad G r) : ∀ (S : List fx_V) (st : List Value), fx_st r S st → (st.map fun v => v.category).sum ≤ fx_cs G S
  | [], st, h => by rw [fx_st_nil h]; exact Nat.le_refl _
  | a :: S, st, h => by
    obtain ⟨v, st', rfl, h1, h2⟩ := fx_st_cons h
    have ih := fx_cs_ok hG S st' h2
    unfold fx_cs at ih ⊢
    simp only [List.map_cons, List.sum_cons]
    have hv : v.category ≤ if fx_lg G a then 2 else 1 := by
      cases hc : fx_lg G a with
      | true => rcases lv_cat v with q | q <;> simp [q]
      | false => rw [fx_cat1 hG h1 hc]; simp
    omega
def fx_EvV (l : Launch) (E : (Nat → Prop) → State → Prop) (Y : fx_Y) (ad : List Nat) (D : va_G) (cl : List vw_C) (Ts : List Cond) (own : String) (R : Room) (i ci : Nat) (c : fx_C) : Prop := ∃ (y : MethodName) (bytes : ByteArray) (maxL : Nat) (ret : Option FieldType) (wm : List Cond) (rm : Room) (q : vw_C),
  rm.cells = 0 ∧ rm.slots = 0 ∧ (rm.frames + 1 ≤ R.frames ∧ 8 + (maxL + 11) + rm.locals ≤ R.locals) ∧ fx_Met l y (Cond.code y bytes maxL ret :: wm) rm E Y ad D cl c ∧ cl[ci]? = some q ∧ (y.cls = q.1 ∧ y.cls ≠ "java/lang/invoke/MethodHandle" ∧ y.cls ≠ "java/lang/invoke/VarHandle" ∧ (parseMethodDescriptor y.desc).map (fun d => d.parameters.length) = some (c.1.length - 1)) ∧ GoodIn Ts (wsV own i q.1 y (Cond.code y bytes maxL ret :: wm))
def fx_EvS (l : Launch) (E : (Nat → Prop) → State → Prop) (Y : fx_Y) (ad : List Nat) (D : va_G) (cl : List vw_C) (Ts : List Cond) (own : String) (R : Room) (i : Nat) (c : fx_C) : Prop := ∃ (y : MethodName) (bytes : ByteArray) (maxL : Nat) (ret : Option FieldType) (wm : List Cond) (rm : Room),
  rm.cells = 0 ∧ rm.slots = 0 ∧ (rm.frames + 1 ≤ R.frames ∧ 8 + (maxL + 11) + rm.locals ≤ R.locals) ∧ fx_Met l y (Cond.code y bytes maxL ret :: wm) rm E Y ad D cl c ∧ (y.cls ≠ "java/lang/invoke/MethodHandle" ∧ y.cls ≠ "java/lang/invoke/VarHandle" ∧ (parseMethodDescriptor y.desc).map (fun d => d.parameters.length) = some c.1.length) ∧ GoodIn Ts (va_wsS own i y (Cond.code y bytes maxL ret :: wm))
def fx_env (E : (Nat → Prop) → State → Prop) (D : va_G) (cl : List vw_C) (tys : List (ClassId × FieldType)) (nest : List Cond) : Prop := (∀ A U, E A U → va_K D cl tys U ∧ ∀ w ∈ nest, va_Nw w U) ∧ (∀ (A B : Nat → Prop) (s U : State), s.WarmedH U.vm → (∀ a : Nat, a < s.heap.size → ¬ A a → U.heap[a]? = s.heap[a]?) → (∀ q, B q → A q) → E A s → E B U) ∧ ∀ (A : Nat → Prop) (U : State) (g : JFrame) (mk : MethodId) (a : Array Value), E A U → E A (U.calling g mk a)
theorem fx_Asub {A : Nat → Prop} {H0 H : Heap} {ws : va_W} {locs : List Loc} (hA0 : ∀ q, H0.size ≤ q → A q) (hD : va_D A ws) (hS : va_S A H0 H locs) : ∀ q, va_A ws H.size q → A q := fun q ha => by
  rcases ha with ⟨k, e', ha⟩ | ha
  · exact hD.2 k _ ha
  · exact hA0 q (Nat.le_trans hS.1 ha)
section FXB
variable {Y : fx_Y} {ad : List Nat} {nL : Nat} {D : va_G} {cl : List vw_C} {A : Nat → Prop} {H0 : Heap} {md : List (Nat × Nat)} {w0 : va_W} {p : Program} {l : Launch} {e : Env} {R : Room} {s : State} {m : MethodId} {args : Array Value} {below : List Frame} {meth : Method} {c : Code} {Q : State → Prop} {cc : ByteArray} {pc : Nat} {r0 w : List Value} {ws : va_W} {H : Heap} {ls : Array Slot} {st : List Value} {locs : List Loc} {tys : List (ClassId × FieldType)}
theorem fx_call {Qa : State → Outcome → State → Prop} {free A1 : Nat → Prop} {st0 rest : List Value} (hr : va_Run p l e R s m args below meth c H locs 0 0 0 0 (F0 m pc ls st0) rest Qa free) (hS : va_S A H0 H locs) (hA : ∀ q, q < H.size → A1 q → A q) (hf : ∀ q, free q → A q) (hQ : ∀ st v t, Qa st (.returned v) t → va_F A1 st t)
    (kk : ∀ (v : Option Value) (st₀ t : State) (H1 : Heap) (locs1 : List Loc), st₀.heap = H → t.heap = H1 → Qa st₀ (.returned v) t → va_S A H0 H1 locs1 → W p l e R s m args below meth c H1 locs1 0 0 Q (F0 m (pc + 3) ls (v.toList ++ rest))) : W p l e R s m args below meth c H locs 0 0 Q (F0 m pc ls st0) := by
  intro T hT X
  obtain ⟨v, st₀, t, T', L, h0, X', hL, e1, e2, hq, st⟩ := hr T hT X
  obtain ⟨hz, hk⟩ := hQ _ _ _ hq
  rw [h0] at hz hk
  obtain ⟨t2, a1, b1⟩ := kk v st₀ t T'.heap (locs ++ L) h0 e1.symm hq
    ⟨Nat.le_trans hS.1 (by rw [e1]; exact hz), fun q h1 h2 => by rw [e1, hk q (Nat.lt_of_lt_of_le h1 hS.1) (fun z => h2 (hA q (Nat.lt_of_lt_of_le h1 hS.1) z))]; exact hS.2.1 q h1 h2, fun q hq => by
      rcases List.mem_append.mp hq with h | h
      · exact hS.2.2 q h
      · exact hf _ (hL q h)⟩ T' rfl X'
  exact ⟨t2, st t2 a1, b1⟩
/-- behind the call -/
theorem fx_ca_k {c0 : fx_C} {g : fx_S} {l' : List (Nat × fx_S)} (hA0 : ∀ q, H0.size ≤ q → A q) (hs : fx_ca Y.2.1 md pc c0 g = some l') (hk : ∀ q ∈ l', fx_W Y ad nL D cl A H0 md w0 p l e R s m args below meth c Q r0 q.1 q.2) (hg : fx_g Y ad nL g (r0 ++ w) ws ls st) (hh : fx_hp Y ad D cl A H0 md w0 ws H locs) :
    ∃ (av rest rt : List Value), st = av.reverse ++ rest ∧ fx_st (r0 ++ w) (g.2.2.1.take c0.1.length).reverse av ∧ av.length = c0.1.length ∧ (rest.map fun v => v.category).sum ≤ 8 ∧ fx_ty Y ad c0.1 av ∧ fx_fs Y ad ws av c0.2.1 rt ∧
      ∀ (Qa : State → Outcome → State → Prop), (∀ st oc t, Qa st oc t → fx_Qc Y ad D cl c0 av ws H.size #[] st oc t) → va_Run p l e R s m args below meth c H locs 0 0 0 0 (F0 m pc ls st) rest Qa (va_A ws H.size) → W p l e R s m args below meth c H locs 0 0 Q (F0 m pc ls st) := by
  obtain ⟨G, L, S, F⟩ := g
  simp only [fx_ca] at hs
  split at hs
  · rename_i hc
    obtain ⟨c1, c2, c3⟩ := hc
    split at hs
    · rename_i q hq
      have hst := hg.2.2.1
      have hav := fx_st_rev (fx_st_take c0.1.length hst)
      have hre := fx_st_drop c0.1.length hst
      have hty := fx_tys_ok hg.1 _ _ _ c1 hav
      have hg' : fx_g Y ad nL (G, L, S.drop c0.1.length, F) (r0 ++ w) ws ls (st.drop c0.1.length) := ⟨hg.1, hg.2.1, hre, hg.2.2.2⟩
      obtain ⟨w2, rt, g1, g2, g3⟩ := fx_el1_ok hh.1 hh.2.2.1 c0.2.1 _ _ q (r0 ++ w) _ hg' hav hq
      refine ⟨(st.take c0.1.length).reverse, st.drop c0.1.length, rt, by rw [List.reverse_reverse, List.take_append_drop], hav, hty.1, Nat.le_trans (fx_cs_ok hg.1 _ _ hre) c2, hty, g2, ?_⟩
      intro Qa hQa hr
      refine fx_call (A1 := va_A ws H.size) hr hh.2.2.2.1 (fun q hq ha => ?_) (fun q ha => ?_) (fun st v t h => (hQa st _ t h).2) (fun v st₀ t H1 locs1 e0 e1 hq1 hS1 => ?_)
      · rcases ha with ⟨k, e', ha⟩ | ha
        · exact hh.2.2.1.2 k _ ha
        · omega
      · rcases ha with ⟨k, e', ha⟩ | ha
        · exact hh.2.2.1.2 k _ ha
        · exact hA0 q (Nat.le_trans hh.2.2.2.1.1 ha)
      · obtain ⟨⟨ws1, rv, e2, p1, p2, pI, p3, po, m1, p4, p5, rt2, p6⟩, -⟩ := hQa _ _ _ hq1
        cases e2
        rw [e1] at p1
        have hh1 : fx_hp Y ad D cl A H0 md w0 ws1 H1 locs1 := ⟨p2, p1, fx_D_of hh.2.2.1 (by rw [p2.1, hh.1.1]), hS1, fx_sm_tr hh.2.2.2.2.1 p3 (fun q hq => by have := List.all_eq_true.mp c3 q hq; simpa using this), pI⟩
        have hav2 : fx_st (r0 ++ w ++ w2) (S.take c0.1.length).reverse (st.take c0.1.length).reverse := fx_st_mono _ hav
        obtain ⟨G2, r1, r2⟩ := fx_rp_ok _ po.2.1 _ q.1.1 g1.1 hav2 (fun i t hi => p5.2 i t hi)
        obtain ⟨g', d1, d2⟩ := fx_pos_mem _ _ hs m1 r1
        have hsv := fx_sv_ok g1.1 hh.1 hh.2.2.1 p3 g1.2.2.2
        have base : fx_g Y ad nL (G2, q.1.2.1, q.1.2.2.1, fx_sv Y.2.1 q.1.1 c0.2.2.2 q.1.2.2.2) (r0 ++ w ++ w2) ws1 ls (st.drop c0.1.length) := ⟨r2, g1.2.1, g1.2.2.1, hsv⟩
        cases hp : po.1 with
        | none =>
          rw [hp] at p4 d1
          simp only [] at p4 d1
          subst p4
          obtain ⟨w3, hz⟩ := fx_ad1_ok p2 _ _ _ g' _ _ rt2 base hav2 p6 d1
          rw [List.append_assoc, List.append_assoc] at hz
          exact hk _ d2 _ ws1 H1 ls _ locs1 hz hh1
        | some t0 =>
          rw [hp] at p4 d1
          simp only [] at p4 d1
          obtain ⟨v0, rfl, hv0⟩ := p4
          have base2 := fx_push base hv0
          obtain ⟨w3, hz⟩ := fx_ad1_ok p2 _ _ _ g' _ _ rt2 base2 (fx_st_mono _ hav2) p6 d1
          rw [List.append_assoc, List.append_assoc, List.append_assoc] at hz
          exact hk _ d2 _ ws1 H1 ls _ locs1 hz hh1
    · cases hs
  · cases hs
theorem fx_caS_ok {Ts nest : List Cond} {own : String} {E : (Nat → Prop) → State → Prop} (hE : fx_env E D cl tys nest) (hEs : E A s) (hH0 : H0 = s.heap) (hexec : p.tables.exec = Jvm.exec) (hb : c.code = cc) (hml : c.maxLocals = nL) (hts : ∀ w ∈ Ts, w.before args s = true) (hown : s.vm.findClass own = some m.cls) (hA0 : ∀ q, H0.size ≤ q → A q) {i : Nat} {c0 : fx_C} (hev : fx_EvS l E Y ad D cl Ts own R i c0) (hdg : decode cc pc = .ok (.invokestatic i, 3)) {g : fx_S} {l' : List (Nat × fx_S)} (hs : fx_ca Y.2.1 md pc c0 g = some l') (hk : ∀ q ∈ l', fx_W Y ad nL D cl A H0 md w0 p l e R s m args below meth c Q r0 q.1 q.2) (hg : fx_g Y ad nL g (r0 ++ w) ws ls st) (hh : fx_hp Y ad D cl A H0 md w0 ws H locs) : W p l e R s m args below meth c H locs 0 0 Q (F0 m pc ls st) := by
  obtain ⟨av, rest, rt, e1, -, e2, e3, e4, e5, kk⟩ := fx_ca_k hA0 hs hk hg hh
  obtain ⟨y, bytes, maxL, ret, wm, rm, r1, r2, r3, r4, r5, r6⟩ := hev
  have hM := r4 av ws H.size rt e4 e5 hh.1 hh.2.2.2.2.2 ⟨hh.2.2.1.1, fun _ _ _ => trivial⟩
  refine kk _ (fun st oc t h => h) (va_runS (As := av) (rest := rest) ⟨hexec, hb, hml, hown, hts⟩ hM (va_cwS c0.1.length hts r6 rfl r1 r2 r5 r3) ⟨fun a U g mk q => ?_, fun U hU hW => ?_⟩ rfl e2 hg.2.1.1 e1 (lv_room e3) hdg ⟨by omega, by omega⟩)
  · obtain ⟨q0, q1, q2, q3⟩ := q
    exact ⟨q0, q1, q2, hE.2.2 _ _ _ _ _ q3⟩
  · exact ⟨rfl, by rw [hU], by rw [hU]; exact hh.2.1, hE.2.1 A _ _ _ hW (fun a h1 h2 => by rw [hU]; rw [← hH0] at h1 ⊢; exact hh.2.2.2.1.2.1 a h1 h2) (fx_Asub hA0 hh.2.2.1 hh.2.2.2.1) hEs⟩
theorem fx_caV_ok {Ts nest : List Cond} {own : String} {E : (Nat → Prop) → State → Prop} (hE : fx_env E D cl tys nest) (hEs : E A s) (hH0 : H0 = s.heap) (hexec : p.tables.exec = Jvm.exec) (hb : c.code = cc) (hml : c.maxLocals = nL) (hts : ∀ w ∈ Ts, w.before args s = true) (hown : s.vm.findClass own = some m.cls) (hA0 : ∀ q, H0.size ≤ q → A q) {i ci : Nat} {c0 : fx_C} (hev : fx_EvV l E Y ad D cl Ts own R i ci c0) (hdg : decode cc pc = .ok (.invokevirtual i, 3)) {g : fx_S} {l' : List (Nat × fx_S)} (hrc : (match c0.1 with
      | t :: _ => match fx_ob Y.2.1 [t] (0, 0) with
        | some u => u.2.1 == ci
        | none => false
      | [] => false) = true) (hs : fx_ca Y.2.1 md pc c0 g = some l') (hk : ∀ q ∈ l', fx_W Y ad nL D cl A H0 md w0 p l e R s m args below meth c Q r0 q.1 q.2) (hg : fx_g Y ad nL g (r0 ++ w) ws ls st) (hh : fx_hp Y ad D cl A H0 md w0 ws H locs) : W p l e R s m args below meth c H locs 0 0 Q (F0 m pc ls st) := by
  obtain ⟨av, rest, rt, e1, -, e2, e3, e4, e5, kk⟩ := fx_ca_k hA0 hs hk hg hh
  obtain ⟨y, bytes, maxL, ret, wm, rm, qc, r1, r2, r3, r4, r5, r6, r7⟩ := hev
  have hM := r4 av ws H.size rt e4 e5 hh.1 hh.2.2.2.2.2 ⟨hh.2.2.1.1, fun _ _ _ => trivial⟩
  have hK := (hE.1 A s hEs).1
  split at hrc
  · rename_i t ts ht
    split at hrc
    · rename_i u hu
      simp only [beq_iff_eq] at hrc
      have h4 := e4
      rw [ht] at h4
      obtain ⟨v, hv1, hv2⟩ := h4.2 0 t rfl
      cases av with
      | nil => cases hv1
      | cons v' As =>
        simp only [List.getElem?_cons_zero, Option.some.injEq] at hv1
        subst hv1
        have hty1 : fx_ty Y ad [t] [v'] := ⟨rfl, fun j t' hj => by
          cases j with
          | zero => simp at hj; subst hj; exact ⟨v', rfl, hv2⟩
          | succ j => simp at hj⟩
        obtain ⟨k, b, vs, rfl, z2, z3, -⟩ := fx_ob_ok (a := (0, 0)) (v := v') hty1 (fx_v_0 rfl) hu hh.1
        rw [hrc] at z3
        have hn : As.length = c0.1.length - 1 := by rw [← e2]; rfl
        have hst : st = As.reverse ++ .ref b :: rest := by rw [e1, List.reverse_cons, List.append_assoc]; rfl
        refine kk _ (fun st oc t h => h) (va_runV (As := As) (rest := rest) (b := b) ⟨hexec, hb, hml, hown, hts⟩ hM (cwV (c0.1.length - 1) hts r7 rfl r1 r2 r6 r3) ⟨fun a U g mk q => ?_, va_recv hK hh.2.1 r5 z3, fun U hU hW => ?_⟩ rfl hn hg.2.1.1 hst (lv_room e3) hdg ⟨by omega, by omega⟩)
        · obtain ⟨q0, q1, q2, q3⟩ := q
          exact ⟨q0, q1, q2, hE.2.2 _ _ _ _ _ q3⟩
        · exact ⟨rfl, by rw [hU], by rw [hU]; exact hh.2.1, hE.2.1 A _ _ _ hW (fun a h1 h2 => by rw [hU]; rw [← hH0] at h1 ⊢; exact hh.2.2.2.1.2.1 a h1 h2) (fx_Asub hA0 hh.2.2.1 hh.2.2.2.1) hEs⟩
    · cases hrc
  · cases hrc
end FXB
