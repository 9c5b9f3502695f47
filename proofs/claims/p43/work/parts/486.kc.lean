section KC4
variable {l : Launch} {E : (Nat → Prop) → State → Prop} {T : List fx_G} {cy : Nat → ClassId} {D : va_G} {gc : List Nat → Prop} {nL : Nat}
theorem k_ofQ {y : MethodName} {bytes : ByteArray} {mc ms frm lo ci : Nat} {dv As : List Value} {Qc : Nat → Nat → Array Value → State → Outcome → State → Prop} (hg0 : gc []) (hy : plainName y.cls = true) (hyn : y.name = "<init>") (hlen : ∀ h0 : Nat, (lg_sl (.ref h0 :: As)).length ≤ nL)
    (hbody : ∀ (h0 : Nat) (p : Program) (e : Env) (s : State) (m : MethodId) (below : List Frame) (meth : Method) (c : Code), meth.locks = false → meth.sig.returnType = none → meth.name = "<init>" → gC p s m (.ref h0 :: As).toArray c bytes nL y.cls → E (va_A [(h0, .inr (ci, dv))] s.heap.size) s → (∀ q, s.heap.size ≤ q → va_A [(h0, .inr (ci, dv))] s.heap.size q) →
      GW p l e ({ frames := frm, cells := mc, slots := ms, locals := lo }) s m (.ref h0 :: As).toArray below meth c (MQ below (Qc h0 s.heap.size) (.ref h0 :: As).toArray s mc ms (va_A [(h0, .inr (ci, dv))] s.heap.size)) bytes nL 0 0 0 (lv_args 0 (.ref h0 :: As)) [] (kP T cy D (va_A [(h0, .inr (ci, dv))] s.heap.size) s.heap gc [(h0, .inr (ci, dv))] [])) :
    ∀ (h0 sz : Nat), Met l y (Cond.code y bytes nL none :: wsL_law) ({ frames := frm, cells := mc, slots := ms, locals := lo }) (va_Pc (.ref h0 :: As) (fun U => U.heap.size = sz ∧ va_P D classes [(h0, .inr (ci, dv))] U.heap ∧ E (va_A [(h0, .inr (ci, dv))] sz) U)) (Qc h0 sz) mc ms (va_A [(h0, .inr (ci, dv))] sz) := by
  intro h0 sz
  refine Met.ofW (cc := bytes) (maxL := nL) (ret := none) hy rfl ?_
  intro p e s m args below meth c s₁ B hml hv
  obtain ⟨rfl, hsz, hP, hEs⟩ := hv
  subst hsz
  have hts0 := atoms_spec (ws := Cond.code y bytes nL none :: wsL_law) B.pre
  have hin : meth.name = "<init>" := (name_of_methodNamed B.named B.method).1.trans hyn
  have hw := hbody h0 p e s m below meth c B.notSynchronized B.returns hin ⟨B.exec, B.bytes, hml, fun w h => hts0 w (List.mem_cons_of_mem _ h), findClass_of_methodNamed B.named, trivial⟩ hEs (fun q hq => Or.inr hq)
  have hl := lv_entry (.ref h0 :: As) (n := nL) (hlen h0)
  rw [lg_entry_eq]
  refine hw s.heap [] _ hl ⟨[], [], [], hg0, rfl, ⟨rfl, fun k a e hk => by simp at hk⟩, (fun q hq => by simp at hq), (by rw [List.append_nil]; exact hP), ?_, va_S.rf⟩
  rw [List.append_nil]
  refine ⟨fun i j u v hi hj _ => ?_, fun k q hk => va_A.in hk⟩
  have h1 : i < 1 := (List.getElem?_eq_some_iff.mp hi).1
  have h2 : j < 1 := (List.getElem?_eq_some_iff.mp hj).1
  omega
end KC4
theorem gs_n {k : Nat} (h : k < 49) : gsM[k]? = some k := by
  have : ∀ k, k < 49 → gsM[k]? = some k := by decide +kernel
  exact this k h
theorem tz_cell {T : List fx_G} {cy : Nat → ClassId} {ad : List Nat} {ws : va_W} {G : fx_G} {k : Nat} (hw : fx_wo (gsM, T, cy, fun _ => True) ad ws) (hl : ws.length = 49) (hk : k < 49) (hT : T[k]? = some G) : ∃ a el, ws[k]? = some (a, el) ∧ fx_okE (gsM, T, cy, fun _ => True) ad G el := by
  have h1 : k < ws.length := by omega
  obtain ⟨⟨a, el⟩, he⟩ : ∃ x, ws[k]? = some x := ⟨ws[k], List.getElem?_eq_getElem h1⟩
  obtain ⟨g, G', q1, q2, q3⟩ := hw.2 k a el he
  have e1 : g = k := Option.some.inj (q1.symm.trans (gs_n hk))
  subst e1
  have q2' : T[g]? = some G' := q2
  rw [hT] at q2'
  cases q2'
  exact ⟨a, el, he, q3⟩
theorem tz_a {T : List fx_G} {cy : Nat → ClassId} {ad : List Nat} {ws : va_W} {k n j : Nat} (hw : fx_wo (gsM, T, cy, fun _ => True) ad ws) (hl : ws.length = 49) (hk : k < 49) (hT : T[k]? = some (.inr (0, n, [.inl (0, 0)]))) (hj : j < n) : vi ws k j = 0 := by
  obtain ⟨a, el, h1, h2⟩ := tz_cell hw hl hk hT
  rcases el with ⟨cA, n', x⟩ | ⟨c, vs⟩
  · obtain ⟨p1, p2, ⟨f, rfl⟩, p4⟩ := h2
    rw [vi_a h1]
    obtain ⟨y, y1, y2, y3⟩ := p4 j (.inl (0, 0)) hj (by rw [show j % ([(.inl (0, 0) : fx_T)]).length = 0 from Nat.mod_one j]; rfl)
    cases y1
    simp only at y2 y3
    omega
  · exact False.elim h2
theorem tz_f {T : List fx_G} {cy : Nat → ClassId} {ad : List Nat} {ws : va_W} {ts : List fx_T} {i : Nat} (hw : fx_wo (gsM, T, cy, fun _ => True) ad ws) (hl : ws.length = 49) (hT : T[0]? = some (.inl (12, ts))) (hi : ts[i]? = some (.inl (0, 0))) : vi ws 0 i = 0 := by
  obtain ⟨a, el, h1, h2⟩ := tz_cell hw hl (by omega) hT
  rcases el with ⟨cA, n', x⟩ | ⟨c, vs⟩
  · exact False.elim h2
  · obtain ⟨p1, p2, p3⟩ := h2
    obtain ⟨v, v1, x, rfl, x1, x2⟩ := p3 i _ hi
    rw [vi_f h1 v1]
    simp only at x1 x2
    omega
