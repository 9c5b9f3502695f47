-- the law: both worlds side by side
def JM (w : va_W) : Prop := imAU w ∧ imSW w ∧ imWF w ∧ imRg w
theorem sh_1 {cy : Nat → ClassId} {ad : List Nat} {ws : va_W} {r fi g : Nat} {G : Nat × Nat × List fx_T} (hwo : fx_wo (gsM, TM, cy, fun _ => True) ad ws) (ha : ad[0]? = some r) (hf : tsM[fi]? = some (.inr (.inr (g + 1)))) (hg : g < 10000) (hT : TM[g]? = some (.inr G)) : ∃ a x, ws[g]? = some (a, .inl x) := by
  obtain ⟨vs, h1, -, h3, -⟩ := tm_obj hwo ha TM0
  obtain ⟨v, v1, k, b, v2, v3, rfl⟩ := h3 fi _ hf
  have hk : k = g := by
    rcases v3 with ⟨_, v3⟩ | ⟨v3, _⟩
    · exact tm_gs v3
    · omega
  subst hk
  obtain ⟨t0, n, pat⟩ := G
  obtain ⟨x, g1, -⟩ := tm_arr hwo v2 hT
  exact ⟨b, _, g1⟩
theorem sh_of {cy : Nat → ClassId} {ad : List Nat} {ws : va_W} {r : Nat} (hwo : fx_wo (gsM, TM, cy, fun _ => True) ad ws) (ha : ad[0]? = some r) : imSh ws := by
  obtain ⟨vs, h1, -⟩ := tm_obj hwo ha TM0
  refine ⟨⟨_, _, h1⟩, fun g hg => ?_⟩
  simp only [List.mem_cons, List.not_mem_nil, or_false] at hg
  rcases hg with rfl | rfl | rfl | rfl | rfl | rfl | rfl
  · exact sh_1 (fi := 11) hwo ha rfl (by decide) TMa_3
  · exact sh_1 (fi := 13) hwo ha rfl (by decide) TMa_5
  · exact sh_1 (fi := 21) hwo ha rfl (by decide) TMa_13
  · exact sh_1 (fi := 22) hwo ha rfl (by decide) TMa_14
  · exact sh_1 (fi := 23) hwo ha rfl (by decide) TMa_15
  · exact sh_1 (fi := 24) hwo ha rfl (by decide) TMa_16
  · exact sh_1 (fi := 29) hwo ha rfl (by decide) TMa_21
theorem JM_sm {cy : Nat → ClassId} {ad : List Nat} {md : List (Nat × Nat)} {w w' : va_W} (hw : fx_wo (gsM, TM, cy, fun _ => True) ad w) (hw' : fx_wo (gsM, TM, cy, fun _ => True) ad w') (hs : fx_sm (gsM, TM, cy, fun _ => True) md w w') (hAU : imAU w') (hmd : (md.all fun q => q.1 == 12 || !supM.contains q) = true) (h : JM w) : JM w' := by
  obtain ⟨-, h2⟩ := h
  have hn : ∀ g ∈ [3, 5, 13, 14, 15, 16, 21], (1000, g) ∉ md := fun g hg hm => by
    have h1 := List.all_eq_true.mp hmd _ hm
    have ar : ∀ g ∈ [3, 5, 13, 14, 15, 16, 21], (1000, g) ∈ supM := by decide +kernel
    have hc := ar g hg
    simp [hc] at h1
  refine ⟨hAU, im_c (w := w) (fun g hg j => ?_) h2⟩
  have hn' := hn g hg
  simp only [List.mem_cons, List.not_mem_nil, or_false] at hg
  rcases hg with rfl | rfl | rfl | rfl | rfl | rfl | rfl
  · exact sm_a hw hw' hs TMa_3 hn'
  · exact sm_a hw hw' hs TMa_5 hn'
  · exact sm_a hw hw' hs TMa_13 hn'
  · exact sm_a hw hw' hs TMa_14 hn'
  · exact sm_a hw hw' hs TMa_15 hn'
  · exact sm_a hw hw' hs TMa_16 hn'
  · exact sm_a hw hw' hs TMa_21 hn'
theorem AU_sm {cy : Nat → ClassId} {ad : List Nat} {md : List (Nat × Nat)} {w w' : va_W} (hw : fx_wo (gsM, TM, cy, fun _ => True) ad w) (hw' : fx_wo (gsM, TM, cy, fun _ => True) ad w') (hs : fx_sm (gsM, TM, cy, fun _ => True) md w w') (h : (12, 49) ∉ md ∧ (12, 50) ∉ md) (hA : imAU w) : imAU w' := by
  unfold imAU at hA ⊢
  rw [sm_f hw hw' hs h.1, sm_f hw hw' hs h.2]
  exact hA
/-- what a call on the reference does, from any world of its types with the invariant -/
def MC (l : Launch) (y : MethodName) (bytes : ByteArray) (maxL : Nat) (ret : Option FieldType) (fr lo : Nat) (E : (Nat → Prop) → State → Prop) (D : va_G) (cy : Nat → ClassId) (m0 : Nat) (As : List Value) : Prop := ∀ (am : List Nat) (wm : va_W) (sz : Nat), fx_wo (gsM, TM, cy, fun _ => True) am wm → am[0]? = some m0 → JM wm → va_D (fun _ => True) wm →
  ∃ Qc : Array Value → State → Outcome → State → Prop, Met l y (Cond.code y bytes maxL ret :: wsL_law) ({ frames := fr, cells := 0, slots := 0, locals := lo }) (va_Pc (.ref m0 :: As) (fun U => U.heap.size = sz ∧ va_P D classes wm U.heap ∧ E (va_A wm sz) U)) Qc 0 0 (va_A wm sz) ∧
    ∀ a st oc t, Qc a st oc t → (∃ (wm1 : va_W) (rv : Option Value), oc = .returned rv ∧ va_P D classes wm1 t.heap ∧ fx_wo (gsM, TM, cy, fun _ => True) am wm1 ∧ JM wm1 ∧ vi wm1 0 70 = vi wm 0 70 ∧ ∃ z, rv = some (zv z)) ∧ va_F (va_A wm sz) st t
section LAM
variable {l : Launch} {y : MethodName} {bytes : ByteArray} {maxL : Nat} {ret : Option FieldType} {fr lo : Nat} {E : (Nat → Prop) → State → Prop} {D : va_G} {cy : Nat → ClassId} {m0 : Nat} {As : List Value}
theorem mc_fx {c0 : fx_C} (hm : ∀ am : List Nat, fx_Met l y (Cond.code y bytes maxL ret :: wsL_law) ({ frames := fr, cells := 0, slots := 0, locals := lo }) E (gsM, TM, cy, fun _ => True) am D classes c0) (hpre : c0.2.1 = []) (hmd : (c0.2.2.2.all fun q => !supM.contains q) = true) (hx : (12, 49) ∉ c0.2.2.2 ∧ (12, 50) ∉ c0.2.2.2 ∧ (12, 70) ∉ c0.2.2.2) (hty : ∀ am : List Nat, am[0]? = some m0 → fx_ty (gsM, TM, cy, fun _ => True) am c0.1 (.ref m0 :: As)) (hret : ∀ po ∈ c0.2.2.1, ∃ q, po.1 = some (.inl q)) : MC l y bytes maxL ret fr lo E D cy m0 As := by
  intro am wm sz hwo ha hJ hD
  refine ⟨_, hm am (.ref m0 :: As) wm sz (.ref m0 :: As) (hty am ha) (by rw [hpre]; rfl) hwo trivial hD, fun a st oc t hq => ?_⟩
  obtain ⟨⟨ws1, rv, e2, p1, p2, -, p3, po, p4, p5⟩, hF⟩ := hq
  obtain ⟨z, rfl⟩ := xrv p5 (hret po p4)
  refine ⟨⟨ws1, _, e2, p1, p2, JM_sm hwo p2 p3 (AU_sm hwo p2 p3 ⟨hx.1, hx.2.1⟩ hJ.1) ?_ hJ, sm_f hwo p2 p3 hx.2.2, z.toInt, by rw [← zv_of]⟩, hF⟩
  rw [List.all_eq_true] at hmd ⊢
  exact fun q hq => by rw [hmd q hq]; simp
theorem mc_fxI {c0 : fx_C} (hm : ∀ am : List Nat, fx_Met l y (Cond.code y bytes maxL ret :: wsL_law) ({ frames := fr, cells := 0, slots := 0, locals := lo }) E (gsM, TM, cy, IM) am D classes c0) (hpre : c0.2.1 = []) (hx : (1000, 15) ∉ c0.2.2.2 ∧ (1000, 16) ∉ c0.2.2.2 ∧ (12, 70) ∉ c0.2.2.2) (hty : ∀ am : List Nat, am[0]? = some m0 → fx_ty (gsM, TM, cy, fun _ => True) am c0.1 (.ref m0 :: As)) (hret : ∀ po ∈ c0.2.2.1, ∃ q, po.1 = some (.inl q)) : MC l y bytes maxL ret fr lo E D cy m0 As := by
  intro am wm sz hwo ha hJ hD
  refine ⟨_, hm am (.ref m0 :: As) wm sz (.ref m0 :: As) (hty am ha) (by rw [hpre]; rfl) hwo ⟨sh_of hwo ha, hJ.1, hJ.2.1, hJ.2.2.1⟩ hD, fun a st oc t hq => ?_⟩
  obtain ⟨⟨ws1, rv, e2, p1, p2, pI, p3, po, p4, p5⟩, hF⟩ := hq
  obtain ⟨z, rfl⟩ := xrv p5 (hret po p4)
  have p2' : fx_wo (gsM, TM, cy, fun _ => True) am ws1 := p2
  have p3' : fx_sm (gsM, TM, cy, fun _ => True) c0.2.2.2 wm ws1 := p3
  obtain ⟨-, q1, q2, q3⟩ := pI
  refine ⟨⟨ws1, _, e2, p1, p2', ⟨q1, q2, q3, fun b hb => ?_⟩, sm_f hwo p2' p3' hx.2.2, z.toInt, by rw [← zv_of]⟩, hF⟩
  rw [sm_a hwo p2' p3' TMa_15 hx.1, sm_a hwo p2' p3' TMa_16 hx.2.1]
  exact hJ.2.2.2 b hb
theorem mc_h {pre : List Value → va_W → Prop} {post : List Value → va_W → Option Value → va_W → Prop} (hm : ∀ am : List Nat, am[0]? = some m0 → hM l y bytes maxL ret ({ frames := fr, cells := 0, slots := 0, locals := lo }) E am D cy pre post) (hpre : ∀ wm, JM wm → pre (.ref m0 :: As) wm) (hpost : ∀ (am : List Nat) (wm wm1 : va_W) (rv : Option Value), am[0]? = some m0 → fx_wo (gsM, TM, cy, fun _ => True) am wm → fx_wo (gsM, TM, cy, fun _ => True) am wm1 → JM wm → post (.ref m0 :: As) wm rv wm1 → JM wm1 ∧ vi wm1 0 70 = vi wm 0 70 ∧ ∃ z, rv = some (zv z)) : MC l y bytes maxL ret fr lo E D cy m0 As := by
  intro am wm sz hwo ha hJ hD
  refine ⟨_, hm am ha (.ref m0 :: As) wm sz hwo hD (hpre wm hJ), fun a st oc t hq => ?_⟩
  obtain ⟨⟨ws1, rv, e2, p1, p2, p3⟩, hF⟩ := hq
  obtain ⟨q1, q2, q3⟩ := hpost am wm ws1 rv ha hwo p2 hJ p3
  exact ⟨⟨ws1, rv, e2, p1, p2, q1, q2, q3⟩, hF⟩
end LAM
def TRX (wx : va_W) (x0 : Nat) (t : Int) : Prop := ∃ (k0 : Nat) (vs : List Value) (b k : Nat) (us : List Value), wx[k0]? = some (x0, .inr (11, vs)) ∧ vs[5]? = some (.ref b) ∧ wx[k]? = some (b, .inr (7, us)) ∧ us[11]? = some (zv t)
theorem TRX_sm {Y : fx_Y} {md : List (Nat × Nat)} {w w' : va_W} {x0 : Nat} {t : Int} (hs : fx_sm Y md w w') (hm : (11, 5) ∉ md ∧ (7, 11) ∉ md) (h : TRX w x0 t) : TRX w' x0 t := by
  obtain ⟨k0, vs, b, k, us, h1, h2, h3, h4⟩ := h
  obtain ⟨vs', g1, g2⟩ := hs.1 k0 x0 11 vs h1
  obtain ⟨us', g3, g4⟩ := hs.1 k b 7 us h3
  exact ⟨k0, vs', b, k, us', g1, by rw [g2 5 hm.1]; exact h2, g3, by rw [g4 11 hm.2]; exact h4⟩
def lQ (cy : Nat → ClassId) (D : va_G) (A : Nat → Prop) (H0 : Heap) (x0 m0 : Nat) (tx tm : Int) (H : Heap) (locs : List Loc) : Prop := ∃ (gx ax : List Nat) (wx : va_W) (am : List Nat) (wm : va_W), fx_wo (gx, TX, cy, fun _ => True) ax wx ∧ rt gx ax (x0, 0) ∧ TRX wx x0 tx ∧ fx_wo (gsM, TM, cy, fun _ => True) am wm ∧ am[0]? = some m0 ∧ JM wm ∧ vi wm 0 70 = tm ∧ va_P D classes wx H ∧ va_P D classes wm H ∧ va_D A (wx ++ wm) ∧ va_S A H0 H locs
def lP (cy : Nat → ClassId) (D : va_G) (A : Nat → Prop) (H0 : Heap) (x0 m0 : Nat) (H : Heap) (locs : List Loc) : Prop := ∃ t : Int, lQ cy D A H0 x0 m0 t t H locs
theorem D_1 {A : Nat → Prop} {w1 w2 : va_W} (h : va_D A (w1 ++ w2)) : va_D (fun _ => True) w1 := ⟨fun i j u v hi hj huv => h.1 i j u v (fr_at hi) (fr_at hj) huv, fun _ _ _ => trivial⟩
section LAW
variable {l : Launch} {p : Program} {e : Env} {R : Room} {s : State} {m : MethodId} {args : Array Value} {below : List Frame} {meth : Method} {c : Code} {Q : State → Prop} {cc : ByteArray} {nL : Nat} {own : String} {pc pc' : Nat} {lv lv' : List (Nat × Value)} {st : List Value} {cl sl : Nat}
variable {E : (Nat → Prop) → State → Prop} {cy : Nat → ClassId} {D : va_G} {A : Nat → Prop} {H0 : Heap} {x0 m0 : Nat}
theorem gq_astn {ws : Heap → List Loc → Prop} (C : gC p s m args c cc nL own) {j : Fin 4} {i a : Nat} (hdg : decode cc pc = .ok (.astore_n j, 1)) (hi : (j : Nat) = i) (hn : i < nL) (hl' : (i, Value.ref a) :: lv.filter (fun q => !(q.1 == i) && !(q.1 + 1 == i && q.2.category == 2)) = lv') (hp : pc + 1 = pc') (kk : GW p l e R s m args below meth c Q cc nL cl sl pc' lv' st ws) : GW p l e R s m args below meth c Q cc nL cl sl pc lv (.ref a :: st) ws := fun H locs ls hl hh => by
  subst hp; exact lv_astore_n C.1 C.2.1 hdg hi hl hn hl' (fun ls hl => kk H locs ls hl hh)
theorem gq_tabI {ws : Heap → List Loc → Prop} (C : gC p s m args c cc nL own) {dflt hi : Int} {offs : Array Int} {len k : Nat} {off : Int} (tgt : Nat) (hdg : decode cc pc = .ok (.tableswitch dflt 0 hi offs, len)) (hk : (k : Int) ≤ hi) (hk2 : (k : Int) ≤ 1000) (ho : offs[k]? = some off) (ht : (pc : Int) + off = (tgt : Int)) (kk : GW p l e R s m args below meth c Q cc nL cl sl tgt lv st ws) : GW p l e R s m args below meth c Q cc nL cl sl pc lv (zv (k : Int) :: st) ws := fun H locs ls hl hh => by
  have e := zv_i (z := (k : Int)) ⟨by omega, by omega⟩
  refine lv_tableIn C.1 C.2.1 hdg (by rw [e]; omega) (by rw [e]; omega) ?_ ht (kk H locs ls hl hh)
  rw [e, show ((k : Int) - 0).toNat = k by omega]
  exact ho
theorem gq_tabO {ws : Heap → List Loc → Prop} (C : gC p s m args c cc nL own) {dflt hi : Int} {offs : Array Int} {len : Nat} {z : Int} (tgt : Nat) (hdg : decode cc pc = .ok (.tableswitch dflt 0 hi offs, len)) (hz : hi < z) (hz2 : z ≤ 1000) (hhi : 0 ≤ hi) (ht : (pc : Int) + dflt = (tgt : Int)) (kk : GW p l e R s m args below meth c Q cc nL cl sl tgt lv st ws) : GW p l e R s m args below meth c Q cc nL cl sl pc lv (zv z :: st) ws := fun H locs ls hl hh => by
  have e := zv_i (z := z) ⟨by omega, by omega⟩
  exact lv_tableOut C.1 C.2.1 hdg (Or.inr (by rw [e]; exact hz)) ht (kk H locs ls hl hh)
theorem l_sld {b L : Nat} {xs : Nat → Int32} {tx tm : Int} (C : gC p s m args c cc nL own) (hX : va_X b L xs s H0) (hbl : b < H0.size) (hbA : ¬ A b) (hL : L ≤ 3072) {z : Int} (h0 : 0 ≤ z) (h1 : z < L) (hdg : decode cc pc = .ok (.iaload, 1)) (hp : pc + 1 = pc') (kk : GW p l e R s m args below meth c Q cc nL cl sl pc' lv (zv (xs z.toNat).toInt :: st) (lQ cy D A H0 x0 m0 tx tm)) : GW p l e R s m args below meth c Q cc nL cl sl pc lv (zv z :: .ref b :: st) (lQ cy D A H0 x0 m0 tx tm) := fun H locs ls hl hh => by
  subst hp
  have hh' := hh
  obtain ⟨gx, ax, wx, am, wm, -, -, -, -, -, -, -, -, -, -, hS⟩ := hh'
  have en := zv_n h0 (show z ≤ 2147483647 by omega)
  refine va_sld C.1 C.2.1 hX hbl hbA hS (vp_in_iff.mpr ⟨by rw [zv_i ⟨by omega, by omega⟩]; omega, by rw [zv_i ⟨by omega, by omega⟩]; omega⟩) hdg ?_
  rw [en, zv_of]
  exact kk H locs ls hl hh
theorem l_slen {b L : Nat} {xs : Nat → Int32} {tx tm : Int} (C : gC p s m args c cc nL own) (hX : va_X b L xs s H0) (hbl : b < H0.size) (hbA : ¬ A b) (hdg : decode cc pc = .ok (.arraylength, 1)) (hp : pc + 1 = pc') (kk : GW p l e R s m args below meth c Q cc nL cl sl pc' lv (zv (L : Int) :: st) (lQ cy D A H0 x0 m0 tx tm)) : GW p l e R s m args below meth c Q cc nL cl sl pc lv (.ref b :: st) (lQ cy D A H0 x0 m0 tx tm) := fun H locs ls hl hh => by
  subst hp
  have hh' := hh
  obtain ⟨gx, ax, wx, am, wm, -, -, -, -, -, -, -, -, -, -, hS⟩ := hh'
  exact va_slen C.1 C.2.1 hX hbl hbA hS hdg (kk H locs ls hl hh)
theorem l_m {tx tm : Int} (C : gC p s m args c cc nL own) (hE : fx_env E D classes (tys cy) nestW) (hEs : E A s) (hH0 : H0 = s.heap) (hA : ∀ q, H0.size ≤ q → A q) {y : MethodName} {bytes : ByteArray} {maxL fr lo n i : Nat} {ret : Option FieldType} {As rest : List Value} (hm : MC l y bytes maxL ret fr lo E D cy m0 As) (h3 : fr + 1 ≤ R.frames ∧ 8 + (maxL + 11) + lo ≤ R.locals) (hcl : cl ≤ R.cells ∧ sl ≤ R.slots) (h5 : y.cls = RX12 ∧ y.cls ≠ "java/lang/invoke/MethodHandle" ∧ y.cls ≠ "java/lang/invoke/VarHandle" ∧ (parseMethodDescriptor y.desc).map (fun d => d.parameters.length) = some n) (h6 : GoodIn wsL_law (wsV own i RX12 y (Cond.code y bytes maxL ret :: wsL_law))) (hdg : decode cc pc = .ok (.invokevirtual i, 3)) (hn : As.length = n) (hst : st = As.reverse ++ .ref m0 :: rest) (hsum : (rest.map fun v => v.category).sum ≤ 8) (hp : pc + 3 = pc') (kk : ∀ z : Int, GW p l e R s m args below meth c Q cc nL cl sl pc' lv (zv z :: rest) (lQ cy D A H0 x0 m0 tx tm)) : GW p l e R s m args below meth c Q cc nL cl sl pc lv st (lQ cy D A H0 x0 m0 tx tm) := fun H locs ls hl hh => by
  subst hp
  obtain ⟨gx, ax, wx, am, wm, a1, a2, a3, b1, b2, b3, b4, hPx, hPm, hD, hS⟩ := hh
  obtain ⟨Qc, hM, hQ⟩ := hm am wm H.size b1 b2 b3 (D_1 (D_comm hD))
  obtain ⟨vs, hb0, -⟩ := tm_obj b1 b2 TM0
  refine w_call (cy := cy) (ws := wm) (wr := wx) (ci := 12) (q0 := (RX12, TX12, 74)) (As := As) (rest := rest) (POST := fun rv ws1 => fx_wo (gsM, TM, cy, fun _ => True) am ws1 ∧ JM ws1 ∧ vi ws1 0 70 = vi wm 0 70 ∧ ∃ z, rv = some (zv z)) C hE hEs hH0 hA hl hM (fun a st oc t hq => ?_) h3 hcl rfl h5 h6 hb0 hdg hn hst hsum hPm hPx (D_comm hD) hS (fun ws1 rv H1 locs1 q1 q2 q3 q4 q5 => ?_)
  · obtain ⟨⟨wm1, rv, e1, e2, e3, e4, e5, e6⟩, hF⟩ := hQ a st oc t hq
    exact ⟨⟨wm1, rv, e1, e2, by rw [e3.1, b1.1], e3, e4, e5, e6⟩, hF⟩
  · obtain ⟨c1, c2, c3, z, rfl⟩ := q5
    exact kk z H1 locs1 ls hl ⟨gx, ax, wx, am, ws1, a1, a2, a3, c1, b2, c2, c3.trans b4, q2, q1, D_comm q3, q4⟩
theorem l_x {tx tm : Int} (C : gC p s m args c cc nL own) (hE : fx_env E D classes (tys cy) nestW) (hEs : E A s) (hH0 : H0 = s.heap) (hA : ∀ q, H0.size ≤ q → A q) {y : MethodName} {bytes : ByteArray} {maxL fr lo n i : Nat} {ret : Option FieldType} {As rest : List Value} {ts : List fx_T} {c0 : fx_C} (hm : ∀ gx ax : List Nat, fx_Met l y (Cond.code y bytes maxL ret :: wsL_law) ({ frames := fr, cells := 0, slots := 0, locals := lo }) E (gx, TX, cy, fun _ => True) ax D classes c0) (hpre : c0.2.1 = []) (hmd : (11, 5) ∉ c0.2.2.2 ∧ (7, 11) ∉ c0.2.2.2) (hc1 : c0.1 = .inr (.inr 1) :: ts) (hty : ∀ gs ad : List Nat, oks gs ad ts As) (hret : ∀ po ∈ c0.2.2.1, ∃ q, po.1 = some (.inl q)) (h3 : fr + 1 ≤ R.frames ∧ 8 + (maxL + 11) + lo ≤ R.locals) (hcl : cl ≤ R.cells ∧ sl ≤ R.slots) (h5 : y.cls = RX11 ∧ y.cls ≠ "java/lang/invoke/MethodHandle" ∧ y.cls ≠ "java/lang/invoke/VarHandle" ∧ (parseMethodDescriptor y.desc).map (fun d => d.parameters.length) = some n) (h6 : GoodIn wsL_law (wsV own i RX11 y (Cond.code y bytes maxL ret :: wsL_law))) (hdg : decode cc pc = .ok (.invokevirtual i, 3)) (hn : As.length = n) (hst : st = As.reverse ++ .ref x0 :: rest) (hsum : (rest.map fun v => v.category).sum ≤ 8) (hp : pc + 3 = pc') (kk : ∀ z : Int, GW p l e R s m args below meth c Q cc nL cl sl pc' lv (zv z :: rest) (lQ cy D A H0 x0 m0 tx tm)) : GW p l e R s m args below meth c Q cc nL cl sl pc lv st (lQ cy D A H0 x0 m0 tx tm) := fun H locs ls hl hh => by
  subst hp
  obtain ⟨gx, ax, wx, am, wm, a1, a2, a3, b1, b2, b3, b4, hPx, hPm, hD, hS⟩ := hh
  obtain ⟨k, ka, kg⟩ := a2
  obtain ⟨vs, hb0, -, -⟩ := wx_obj (g := 0) (ci := 11) a1 ka kg rfl
  have hty1 : fx_ty (gx, TX, cy, fun _ => True) ax c0.1 (.ref x0 :: As) := by
    rw [hc1]
    exact oks_ok (ts := .inr (.inr 1) :: ts) (vs := .ref x0 :: As) ⟨rt_ok ⟨k, ka, kg⟩ (by decide), hty gx ax⟩
  have hM := hm gx ax (.ref x0 :: As) wx H.size (.ref x0 :: As) hty1 (by rw [hpre]; rfl) a1 trivial (D_1 hD)
  refine w_call (cy := cy) (ws := wx) (wr := wm) (ci := 11) (q0 := (RX11, TX11, 9)) (As := As) (rest := rest) (POST := fun rv ws1 => fx_wo (gx, TX, cy, fun _ => True) ax ws1 ∧ TRX ws1 x0 tx ∧ ∃ z, rv = some (zv z)) C hE hEs hH0 hA hl hM (fun a st oc t hq => ?_) h3 hcl rfl h5 h6 hb0 hdg hn hst hsum hPx hPm hD hS (fun ws1 rv H1 locs1 q1 q2 q3 q4 q5 => ?_)
  · obtain ⟨⟨ws1, rv, e2, p1, p2, -, p3, po, p4, p5⟩, hF⟩ := hq
    obtain ⟨z, rfl⟩ := xrv p5 (hret po p4)
    exact ⟨⟨ws1, _, e2, p1, by rw [p2.1, a1.1], p2, TRX_sm p3 hmd a3, z.toInt, by rw [← zv_of]⟩, hF⟩
  · obtain ⟨c1, c2, z, rfl⟩ := q5
    exact kk z H1 locs1 ls hl ⟨gx, ax, ws1, am, wm, c1, ⟨k, ka, kg⟩, c2, b1, b2, b3, b4, q1, q2, q3, q4⟩
theorem l_ex (kk : ∀ t : Int, GW p l e R s m args below meth c Q cc nL cl sl pc lv st (lQ cy D A H0 x0 m0 t t)) : GW p l e R s m args below meth c Q cc nL cl sl pc lv st (lP cy D A H0 x0 m0) := fun H locs ls hl hh => by
  obtain ⟨t, ht⟩ := hh
  exact kk t H locs ls hl ht
theorem l_in {t : Int} (kk : GW p l e R s m args below meth c Q cc nL cl sl pc lv st (lP cy D A H0 x0 m0)) : GW p l e R s m args below meth c Q cc nL cl sl pc lv st (lQ cy D A H0 x0 m0 t t) := fun H locs ls hl hh => kk H locs ls hl ⟨t, hh⟩
end LAW
