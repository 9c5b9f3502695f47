-- by hand: contracts, calls, ends
def hQ (ad : List Nat) (D : va_G) (cy : Nat → ClassId) (post : List Value → va_W → Option Value → va_W → Prop) (av : List Value) (ws : va_W) (sz : Nat) : Array Value → State → Outcome → State → Prop := fun _ st oc t =>
  (∃ (ws1 : va_W) (rv : Option Value), oc = .returned rv ∧ va_P D classes ws1 t.heap ∧ fx_wo (gsM, TM, cy, fun _ => True) ad ws1 ∧ post av ws rv ws1) ∧ va_F (va_A ws sz) st t
def hM (l : Launch) (y : MethodName) (bytes : ByteArray) (maxL : Nat) (ret : Option FieldType) (rm : Room) (E : (Nat → Prop) → State → Prop) (ad : List Nat) (D : va_G) (cy : Nat → ClassId) (pre : List Value → va_W → Prop) (post : List Value → va_W → Option Value → va_W → Prop) : Prop := ∀ (av : List Value) (ws : va_W) (sz : Nat), fx_wo (gsM, TM, cy, fun _ => True) ad ws → va_D (fun _ => True) ws → pre av ws →
  Met l y (Cond.code y bytes maxL ret :: wsL_law) rm (va_Pc av (fun U => U.heap.size = sz ∧ va_P D classes ws U.heap ∧ E (va_A ws sz) U)) (hQ ad D cy post av ws sz) 0 0 (va_A ws sz)
section HW2
variable {l : Launch} {E : (Nat → Prop) → State → Prop} {ad : List Nat} {D : va_G} {cy : Nat → ClassId} {A : Nat → Prop} {H0 : Heap} {p : Program} {e : Env} {R : Room} {s : State} {m : MethodId} {args : Array Value} {below : List Frame} {meth : Method} {c : Code} {Q : State → Prop} {cc : ByteArray} {nL : Nat} {own : String} {pc pc' : Nat} {lv lv' : List (Nat × Value)} {st : List Value} {ws : va_W}
variable {y : MethodName} {bytes : ByteArray} {maxL : Nat} {ret : Option FieldType} {rm : Room} {pre : List Value → va_W → Prop} {post : List Value → va_W → Option Value → va_W → Prop}
theorem hM_of {fr lo : Nat} (hE : fx_env E D classes (tys cy) nestW) (hy : plainName y.cls = true) (hbody : ∀ (av : List Value) (ws : va_W) (p : Program) (e : Env) (s : State) (m : MethodId) (below : List Frame) (meth : Method) (c : Code), fx_wo (gsM, TM, cy, fun _ => True) ad ws → (∀ i j a : Nat, ad[i]? = some a → ad[j]? = some a → i = j) → pre av ws → meth.locks = false → meth.sig.returnType = ret → hC l E ad D cy (va_A ws s.heap.size) s.heap p e ({ frames := fr, cells := 0, slots := 0, locals := lo }) s m av.toArray below meth c (MQ below (hQ ad D cy post av ws s.heap.size) av.toArray s 0 0 (va_A ws s.heap.size)) bytes maxL y.cls → (lg_sl av).length ≤ maxL ∧ HW l E ad D cy (va_A ws s.heap.size) s.heap p e ({ frames := fr, cells := 0, slots := 0, locals := lo }) s m av.toArray below meth c (MQ below (hQ ad D cy post av ws s.heap.size) av.toArray s 0 0 (va_A ws s.heap.size)) bytes maxL y.cls 0 (lv_args 0 av) [] ws) : hM l y bytes maxL ret ({ frames := fr, cells := 0, slots := 0, locals := lo }) E ad D cy pre post := by
  intro av ws sz hwo hD hpre
  refine Met.ofW (cc := bytes) (maxL := maxL) (ret := ret) hy rfl ?_
  intro p e s m args below meth c s₁ B hml hv
  obtain ⟨rfl, hsz, hP, hEs⟩ := hv
  subst hsz
  have hts0 := atoms_spec (ws := Cond.code y bytes maxL ret :: wsL_law) B.pre
  have hnd : ∀ i j a : Nat, ad[i]? = some a → ad[j]? = some a → i = j := fun i j a hi hj => by
    rw [← hwo.1, List.getElem?_map] at hi hj
    cases h1 : ws[i]? with
    | none => rw [h1] at hi; cases hi
    | some q =>
      cases h2 : ws[j]? with
      | none => rw [h2] at hj; cases hj
      | some q' =>
        rw [h1] at hi; rw [h2] at hj
        cases hi
        exact hD.1 i j _ _ h1 h2 (Option.some.inj hj).symm
  obtain ⟨hlen, hw⟩ := hbody av ws p e s m below meth c hwo hnd hpre B.notSynchronized B.returns ⟨B.exec, B.bytes, hml, fun w h => hts0 w (List.mem_cons_of_mem _ h), findClass_of_methodNamed B.named, hE, hEs, rfl, fun q hq => Or.inr hq⟩
  have hl := lv_entry av (n := maxL) hlen
  rw [lg_entry_eq]
  exact hw s.heap [] _ hl ⟨hwo, hP, hD.self, va_S.rf⟩
theorem hM_fx {c0 : fx_C} (h : fx_Met l y (Cond.code y bytes maxL ret :: wsL_law) rm E (gsM, TM, cy, fun _ => True) ad D classes c0) : hM l y bytes maxL ret rm E ad D cy (fun av ws => fx_ty (gsM, TM, cy, fun _ => True) ad c0.1 av ∧ ∃ rt, fx_fs (gsM, TM, cy, fun _ => True) ad ws av c0.2.1 rt) (fun av ws rv ws1 => fx_sm (gsM, TM, cy, fun _ => True) c0.2.2.2 ws ws1 ∧ ∃ po ∈ c0.2.2.1, fx_po (gsM, TM, cy, fun _ => True) ad po av ws1 rv) := by
  intro av ws sz hwo hD hpre
  obtain ⟨h1, rt, h2⟩ := hpre
  refine fx_mono (h av ws sz rt h1 h2 hwo trivial hD) (fun _ _ h => h) (fun a s oc t _ hq => ?_)
  obtain ⟨⟨ws1, rv, e1, p1, p2, -, p3, p4⟩, p5⟩ := hq
  exact ⟨⟨ws1, rv, e1, p1, p2, p3, p4⟩, p5⟩
theorem fx_hM {c0 : fx_C} {I : va_W → Prop} (h : hM l y bytes maxL ret rm E ad D cy pre post) (hpre : ∀ (av : List Value) (ws : va_W) (rt : List Value), fx_ty (gsM, TM, cy, fun _ => True) ad c0.1 av → fx_fs (gsM, TM, cy, fun _ => True) ad ws av c0.2.1 rt → fx_wo (gsM, TM, cy, fun _ => True) ad ws → I ws → pre av ws) (hpost : ∀ (av : List Value) (ws : va_W) (rv : Option Value) (ws1 : va_W), fx_ty (gsM, TM, cy, fun _ => True) ad c0.1 av → fx_wo (gsM, TM, cy, fun _ => True) ad ws → fx_wo (gsM, TM, cy, fun _ => True) ad ws1 → I ws → pre av ws → post av ws rv ws1 → I ws1 ∧ fx_sm (gsM, TM, cy, fun _ => True) c0.2.2.2 ws ws1 ∧ ∃ po ∈ c0.2.2.1, fx_po (gsM, TM, cy, fun _ => True) ad po av ws1 rv) : fx_Met l y (Cond.code y bytes maxL ret :: wsL_law) rm E (gsM, TM, cy, I) ad D classes c0 := by
  intro av ws sz rt h1 h2 hwo hI hD
  have hp := hpre av ws rt h1 (fx_fs_I _ _ _ h2) hwo hI
  refine fx_mono (h av ws sz hwo hD hp) (fun _ _ h => h) (fun a s oc t _ hq => ?_)
  obtain ⟨⟨ws1, rv, e1, p1, p2, p3⟩, p5⟩ := hq
  obtain ⟨q1, q2, po, q3, q4⟩ := hpost av ws rv ws1 h1 hwo p2 hI hp p3
  exact ⟨⟨ws1, rv, e1, p1, p2, q1, q2, po, q3, q4.1, q4.2.1, q4.2.2.elim fun rt2 h2 => ⟨rt2, fx_fs_I _ _ _ h2⟩⟩, p5⟩
theorem hr_vret {w0 : va_W} {av : List Value} (C : hC l E ad D cy (va_A w0 s.heap.size) s.heap p e R s m args below meth c (MQ below (hQ ad D cy post av w0 s.heap.size) args s 0 0 (va_A w0 s.heap.size)) cc nL own) (hlocks : meth.locks = false) (hr : meth.sig.returnType = none) (hdg : decode cc pc = .ok (.return_, 1)) (hpost : post av w0 none ws) : HW l E ad D cy (va_A w0 s.heap.size) s.heap p e R s m args below meth c (MQ below (hQ ad D cy post av w0 s.heap.size) args s 0 0 (va_A w0 s.heap.size)) cc nL own pc lv [] ws := fun H locs ls hl hh =>
  W.vret C.1 C.2.1 hr (fun t ht hW => ⟨⟨ws, none, rfl, by rw [ht]; exact hh.2.1, hh.1, hpost⟩, hh.2.2.2.F ht⟩) (fun q hq => hh.2.2.2.2.2 q hq) hdg
theorem hr_iret {w0 : va_W} {av : List Value} {z : Int} (C : hC l E ad D cy (va_A w0 s.heap.size) s.heap p e R s m args below meth c (MQ below (hQ ad D cy post av w0 s.heap.size) args s 0 0 (va_A w0 s.heap.size)) cc nL own) (hlocks : meth.locks = false) (hr : meth.sig.returnType = some .int) (hdg : decode cc pc = .ok (.ireturn, 1)) (hpost : post av w0 (some (zv z)) ws) : HW l E ad D cy (va_A w0 s.heap.size) s.heap p e R s m args below meth c (MQ below (hQ ad D cy post av w0 s.heap.size) args s 0 0 (va_A w0 s.heap.size)) cc nL own pc lv [zv z] ws := fun H locs ls hl hh =>
  W.iret C.1 C.2.1 hr (fun t ht hW => ⟨⟨ws, _, rfl, by rw [ht]; exact hh.2.1, hh.1, hpost⟩, hh.2.2.2.F ht⟩) (fun q hq => hh.2.2.2.2.2 q hq) hdg
theorem hr_zret {w0 : va_W} {av : List Value} {z : Int} (C : hC l E ad D cy (va_A w0 s.heap.size) s.heap p e R s m args below meth c (MQ below (hQ ad D cy post av w0 s.heap.size) args s 0 0 (va_A w0 s.heap.size)) cc nL own) (hlocks : meth.locks = false) (hr : meth.sig.returnType = some .boolean) (hz : z = 0 ∨ z = 1) (hdg : decode cc pc = .ok (.ireturn, 1)) (hpost : post av w0 (some (zv z)) ws) : HW l E ad D cy (va_A w0 s.heap.size) s.heap p e R s m args below meth c (MQ below (hQ ad D cy post av w0 s.heap.size) args s 0 0 (va_A w0 s.heap.size)) cc nL own pc lv [zv z] ws := fun H locs ls hl hh =>
  W.zret C.1 C.2.1 hr (by rcases hz with rfl | rfl <;> decide +kernel) (fun t ht hW => ⟨⟨ws, _, rfl, by rw [ht]; exact hh.2.1, hh.1, hpost⟩, hh.2.2.2.F ht⟩) (fun q hq => hh.2.2.2.2.2 q hq) hdg
theorem hr_cS (C : hC l E ad D cy A H0 p e R s m args below meth c Q cc nL own) {i n fr lo : Nat} {As rest : List Value} (hm : hM l y bytes maxL ret ({ frames := fr, cells := 0, slots := 0, locals := lo }) E ad D cy pre post) (h3 : fr + 1 ≤ R.frames ∧ 8 + (maxL + 11) + lo ≤ R.locals) (h5 : y.cls ≠ "java/lang/invoke/MethodHandle" ∧ y.cls ≠ "java/lang/invoke/VarHandle" ∧ (parseMethodDescriptor y.desc).map (fun d => d.parameters.length) = some n) (h6 : GoodIn wsL_law (va_wsS own i y (Cond.code y bytes maxL ret :: wsL_law))) (hdg : decode cc pc = .ok (.invokestatic i, 3)) (hn : As.length = n) (hst : st = As.reverse ++ rest) (hsum : (rest.map fun v => v.category).sum ≤ 8) (hp : pc + 3 = pc') (hpre : pre As ws) (kk : ∀ ws1 rv, fx_wo (gsM, TM, cy, fun _ => True) ad ws1 → post As ws rv ws1 → HW l E ad D cy A H0 p e R s m args below meth c Q cc nL own pc' lv (rv.toList ++ rest) ws1) : HW l E ad D cy A H0 p e R s m args below meth c Q cc nL own pc lv st ws := fun H locs ls hl hh => by
  subst hp
  have hM := hm As ws H.size hh.1 ⟨hh.2.2.1.1, fun _ _ _ => trivial⟩ hpre
  have hsub := fx_Asub C.2.2.2.2.2.2.2.2 hh.2.2.1 hh.2.2.2
  refine fx_call (A1 := va_A ws H.size) (va_runS (As := As) (rest := rest) ⟨C.1, C.2.1, C.2.2.1, C.2.2.2.2.1, C.2.2.2.1⟩ hM (va_cwS n C.2.2.2.1 h6 rfl rfl rfl h5 h3) ⟨fun a U g mk q => ?_, fun U hU hW => ?_⟩ rfl hn hl.1 hst (lv_room hsum) hdg ⟨by omega, by omega⟩) hh.2.2.2 (fun q _ hq => hsub q hq) hsub (fun st v t h => h.2) (fun v st₀ t H1 locs1 e0 e1 hq hS1 => ?_)
  · obtain ⟨q0, q1, q2, q3⟩ := q
    exact ⟨q0, q1, q2, C.2.2.2.2.2.1.2.2 _ _ _ _ _ q3⟩
  · exact ⟨rfl, by rw [hU], by rw [hU]; exact hh.2.1, C.2.2.2.2.2.1.2.1 A _ _ _ hW (fun a h1 h2 => by rw [hU]; have := hh.2.2.2.2.1 a (by rw [C.2.2.2.2.2.2.2.1]; exact h1) h2; rw [this, C.2.2.2.2.2.2.2.1]) hsub C.2.2.2.2.2.2.1⟩
  · obtain ⟨⟨ws1, rv, e2, p1, p2, p3⟩, -⟩ := hq
    cases e2
    rw [e1] at p1
    exact kk ws1 v p2 p3 H1 locs1 ls hl ⟨p2, p1, fx_D_of hh.2.2.1 (by rw [p2.1, hh.1.1]), hS1⟩
theorem hr_cV (C : hC l E ad D cy A H0 p e R s m args below meth c Q cc nL own) {ts : List fx_T} {i n fr lo a : Nat} {As rest : List Value} (hm : hM l y bytes maxL ret ({ frames := fr, cells := 0, slots := 0, locals := lo }) E ad D cy pre post) (h3 : fr + 1 ≤ R.frames ∧ 8 + (maxL + 11) + lo ≤ R.locals) (h5 : y.cls = RX12 ∧ y.cls ≠ "java/lang/invoke/MethodHandle" ∧ y.cls ≠ "java/lang/invoke/VarHandle" ∧ (parseMethodDescriptor y.desc).map (fun d => d.parameters.length) = some n) (h6 : GoodIn wsL_law (wsV own i RX12 y (Cond.code y bytes maxL ret :: wsL_law))) (hT : TM[0]? = some (.inl (12, ts))) (ha : ad[0]? = some a) (hdg : decode cc pc = .ok (.invokevirtual i, 3)) (hn : As.length = n) (hst : st = As.reverse ++ .ref a :: rest) (hsum : (rest.map fun v => v.category).sum ≤ 8) (hp : pc + 3 = pc') (hpre : pre (.ref a :: As) ws) (kk : ∀ ws1 rv, fx_wo (gsM, TM, cy, fun _ => True) ad ws1 → post (.ref a :: As) ws rv ws1 → HW l E ad D cy A H0 p e R s m args below meth c Q cc nL own pc' lv (rv.toList ++ rest) ws1) : HW l E ad D cy A H0 p e R s m args below meth c Q cc nL own pc lv st ws := fun H locs ls hl hh => by
  subst hp
  have hM := hm (.ref a :: As) ws H.size hh.1 ⟨hh.2.2.1.1, fun _ _ _ => trivial⟩ hpre
  have hsub := fx_Asub C.2.2.2.2.2.2.2.2 hh.2.2.1 hh.2.2.2
  obtain ⟨vs, z3, -⟩ := tm_obj hh.1 ha hT
  have hK := (C.2.2.2.2.2.1.1 _ _ C.2.2.2.2.2.2.1)
  refine fx_call (A1 := va_A ws H.size) (va_runV (As := As) (rest := rest) (b := a) ⟨C.1, C.2.1, C.2.2.1, C.2.2.2.2.1, C.2.2.2.1⟩ hM (cwV n C.2.2.2.1 h6 rfl rfl rfl h5 h3) ⟨fun a U g mk q => ?_, va_recv hK.1 hh.2.1 rfl z3, fun U hU hW => ?_⟩ rfl hn hl.1 hst (lv_room hsum) hdg ⟨by omega, by omega⟩) hh.2.2.2 (fun q _ hq => hsub q hq) hsub (fun st v t h => h.2) (fun v st₀ t H1 locs1 e0 e1 hq hS1 => ?_)
  · obtain ⟨q0, q1, q2, q3⟩ := q
    exact ⟨q0, q1, q2, C.2.2.2.2.2.1.2.2 _ _ _ _ _ q3⟩
  · exact ⟨rfl, by rw [hU], by rw [hU]; exact hh.2.1, C.2.2.2.2.2.1.2.1 A _ _ _ hW (fun a h1 h2 => by rw [hU]; have := hh.2.2.2.2.1 a (by rw [C.2.2.2.2.2.2.2.1]; exact h1) h2; rw [this, C.2.2.2.2.2.2.2.1]) hsub C.2.2.2.2.2.2.1⟩
  · obtain ⟨⟨ws1, rv, e2, p1, p2, p3⟩, -⟩ := hq
    cases e2
    rw [e1] at p1
    exact kk ws1 v p2 p3 H1 locs1 ls hl ⟨p2, p1, fx_D_of hh.2.2.1 (by rw [p2.1, hh.1.1]), hS1⟩
end HW2

