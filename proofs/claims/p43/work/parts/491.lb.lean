theorem dX7_goOn_15 : decode cX7_goOn 15 = .ok (.getfield 71, 3) := by decide +kernel
theorem dX7_goOn_24 : decode cX7_goOn 24 = .ok (.getfield 71, 3) := by decide +kernel
theorem dX7_goOn_1 : decode cX7_goOn 1 = .ok (.getfield 71, 3) := by decide +kernel
theorem dX7_goOn_0 : decode cX7_goOn 0 = .ok (.aload_n 0, 1) := by decide +kernel
theorem dX7_goOn_4 : decode cX7_goOn 4 = .ok (.iload_n 1, 1) := by decide +kernel
theorem dX7_goOn_5 : decode cX7_goOn 5 = .ok (.iadd, 1) := by decide +kernel
theorem dX7_goOn_6 : decode cX7_goOn 6 = .ok (.ldc 74, 2) := by decide +kernel
theorem dX7_goOn_8 : decode cX7_goOn 8 = .ok (.if_icmp .le 5, 3) := by decide +kernel
theorem dX7_goOn_13 : decode cX7_goOn 13 = .ok (.aload_n 0, 1) := by decide +kernel
theorem dX7_goOn_14 : decode cX7_goOn 14 = .ok (.dup, 1) := by decide +kernel
theorem dX7_goOn_18 : decode cX7_goOn 18 = .ok (.iload_n 1, 1) := by decide +kernel
theorem dX7_goOn_19 : decode cX7_goOn 19 = .ok (.iadd, 1) := by decide +kernel
theorem dX7_goOn_20 : decode cX7_goOn 20 = .ok (.putfield 71, 3) := by decide +kernel
theorem dX7_goOn_23 : decode cX7_goOn 23 = .ok (.aload_n 0, 1) := by decide +kernel
theorem dX7_goOn_27 : decode cX7_goOn 27 = .ok (.ireturn, 1) := by decide +kernel
theorem dX7_goOn_11 : decode cX7_goOn 11 = .ok (.iconst (-1), 1) := by decide +kernel
theorem dX7_goOn_12 : decode cX7_goOn 12 = .ok (.ireturn, 1) := by decide +kernel
theorem dX11_later_0 : decode cX11_later 0 = .ok (.iload_n 1, 1) := by decide +kernel
theorem dX11_later_11 : decode cX11_later 11 = .ok (.iconst (-1), 1) := by decide +kernel
theorem dX11_later_12 : decode cX11_later 12 = .ok (.goto 11, 3) := by decide +kernel
theorem dX11_later_23 : decode cX11_later 23 = .ok (.ireturn, 1) := by decide +kernel
theorem dX11_later_1 : decode cX11_later 1 = .ok (.ifCond .lt 10, 3) := by decide +kernel
theorem dX11_later_4 : decode cX11_later 4 = .ok (.iload_n 1, 1) := by decide +kernel
theorem dX11_later_5 : decode cX11_later 5 = .ok (.sipush 1000, 3) := by decide +kernel
theorem dX11_later_8 : decode cX11_later 8 = .ok (.if_icmp .le 7, 3) := by decide +kernel
theorem dX11_later_15 : decode cX11_later 15 = .ok (.aload_n 0, 1) := by decide +kernel
theorem dX11_later_16 : decode cX11_later 16 = .ok (.getfield 47, 3) := by decide +kernel
theorem dX11_later_19 : decode cX11_later 19 = .ok (.iload_n 1, 1) := by decide +kernel
theorem dX11_later_20 : decode cX11_later 20 = .ok (.invokevirtual 279, 3) := by decide +kernel
-- later of the class, told exactly
def uQ (D : va_G) (ws : va_W) (sz : Nat) (POST : Option Value → va_W → Prop) : Array Value → State → Outcome → State → Prop := fun _ st oc t =>
  (∃ (ws1 : va_W) (rv : Option Value), oc = .returned rv ∧ va_P D classes ws1 t.heap ∧ ws1.map Prod.fst = ws.map Prod.fst ∧ POST rv ws1) ∧ va_F (va_A ws sz) st t
section LB
variable {l : Launch} {E : (Nat → Prop) → State → Prop} {cy : Nat → ClassId} {D : va_G}
theorem u_of {y : MethodName} {bytes : ByteArray} {maxL fr lo : Nat} {ret : Option FieldType} {av : List Value} {ws : va_W} {POST : Option Value → va_W → Prop} (hy : plainName y.cls = true) (hlen : (lg_sl av).length ≤ maxL) (hD : va_D (fun _ => True) ws)
    (hbody : ∀ (p : Program) (e : Env) (s : State) (m : MethodId) (below : List Frame) (meth : Method) (c : Code), meth.locks = false → meth.sig.returnType = ret → gC p s m av.toArray c bytes maxL y.cls → E (va_A ws s.heap.size) s → (∀ q, s.heap.size ≤ q → va_A ws s.heap.size q) →
      GW p l e ({ frames := fr, cells := 0, slots := 0, locals := lo }) s m av.toArray below meth c (MQ below (uQ D ws s.heap.size POST) av.toArray s 0 0 (va_A ws s.heap.size)) bytes maxL 0 0 0 (lv_args 0 av) [] (kP TX cy D (va_A ws s.heap.size) s.heap (fun gs => gs = []) ws [])) :
    ∀ sz : Nat, Met l y (Cond.code y bytes maxL ret :: wsL_law) ({ frames := fr, cells := 0, slots := 0, locals := lo }) (va_Pc av (fun U => U.heap.size = sz ∧ va_P D classes ws U.heap ∧ E (va_A ws sz) U)) (uQ D ws sz POST) 0 0 (va_A ws sz) := by
  intro sz
  refine Met.ofW (cc := bytes) (maxL := maxL) (ret := ret) hy rfl ?_
  intro p e s m args below meth c s₁ B hml hv
  obtain ⟨rfl, hsz, hP, hEs⟩ := hv
  subst hsz
  have hts0 := atoms_spec (ws := Cond.code y bytes maxL ret :: wsL_law) B.pre
  have hw := hbody p e s m below meth c B.notSynchronized B.returns ⟨B.exec, B.bytes, hml, fun w h => hts0 w (List.mem_cons_of_mem _ h), findClass_of_methodNamed B.named, trivial⟩ hEs (fun q hq => Or.inr hq)
  have hl := lv_entry av (n := maxL) hlen
  rw [lg_entry_eq]
  refine hw s.heap [] _ hl ⟨[], [], [], rfl, rfl, ⟨rfl, fun k a e hk => by simp at hk⟩, (fun q hq => by simp at hq), (by rw [List.append_nil]; exact hP), (by rw [List.append_nil]; exact hD.self), va_S.rf⟩
theorem u_iret {p : Program} {e : Env} {R : Room} {s : State} {m : MethodId} {args : Array Value} {below : List Frame} {meth : Method} {c : Code} {cc : ByteArray} {nL : Nat} {own : String} {pc : Nat} {lv : List (Nat × Value)} {w0 fr : va_W} {POST : Option Value → va_W → Prop} {z : Int} (C : gC p s m args c cc nL own) (hlocks : meth.locks = false) (hr : meth.sig.returnType = some .int) (hdg : decode cc pc = .ok (.ireturn, 1)) (hfst : fr.map Prod.fst = w0.map Prod.fst) (hpost : POST (some (zv z)) fr) : GW p l e R s m args below meth c (MQ below (uQ D w0 s.heap.size POST) args s 0 0 (va_A w0 s.heap.size)) cc nL 0 0 pc lv [zv z] (kP TX cy D (va_A w0 s.heap.size) s.heap (fun gs => gs = []) fr []) := fun H locs ls hl hh => by
  obtain ⟨pl, gs, ad, h1, h2, h3, h4, h5, h6, h7⟩ := hh
  subst h1
  have e : pl = [] := List.length_eq_zero_iff.mp h2.symm
  subst e
  rw [List.append_nil] at h5
  exact W.iret C.1 C.2.1 hr (fun t ht hW => ⟨⟨fr, _, rfl, by rw [ht]; exact h5, hfst, hpost⟩, h7.F ht⟩) (fun q hq => h7.2.2 q hq) hdg
theorem set_fst {ws : va_W} {k b : Nat} {x y : va_E} (h : ws[k]? = some (b, x)) : (ws.set k (b, y)).map Prod.fst = ws.map Prod.fst := fx_len_map rfl h
end LB

def GP (wx : va_W) (b k : Nat) (us : List Value) (t v : Int) (rv : Option Value) (w1 : va_W) : Prop := (t + v ≤ 100000 ∧ rv = some (zv (t + v)) ∧ w1 = wx.set k (b, .inr (7, us.set 11 (zv (t + v))))) ∨ (¬ t + v ≤ 100000 ∧ rv = some (zv (-1)) ∧ w1 = wx)
def LPx (wx : va_W) (b k : Nat) (us : List Value) (t v : Int) (rv : Option Value) (w1 : va_W) : Prop := (0 ≤ v ∧ v ≤ 1000 ∧ t + v ≤ 100000 ∧ rv = some (zv (t + v)) ∧ w1 = wx.set k (b, .inr (7, us.set 11 (zv (t + v))))) ∨ (¬ (0 ≤ v ∧ v ≤ 1000 ∧ t + v ≤ 100000) ∧ rv = some (zv (-1)) ∧ w1 = wx)
set_option maxHeartbeats 4000000 in
theorem kl_goOn {l : Launch} {E : (Nat → Prop) → State → Prop} {cy : Nat → ClassId} {D : va_G} {wx : va_W} {b k : Nat} {us : List Value} {t v : Int} (hE : fx_env E D classes (tys cy) nestW) (hwx : wx[k]? = some (b, .inr (7, us))) (ht : us[11]? = some (zv t)) (h0 : 0 ≤ t ∧ t ≤ 100000) (hv : 0 ≤ v ∧ v ≤ 1000) (hD : va_D (fun _ => True) wx) : ∀ sz : Nat, Met l yX7_goOn (Cond.code yX7_goOn cX7_goOn 2 (some .int) :: wsL_law) ({ frames := 0, cells := 0, slots := 0, locals := 0 }) (va_Pc [.ref b, zv v] (fun U => U.heap.size = sz ∧ va_P D classes wx U.heap ∧ E (va_A wx sz) U)) (uQ D wx sz (GP wx b k us t v)) 0 0 (va_A wx sz) := by
  refine u_of (cy := cy) (by decide +kernel) (Nat.le_of_ble_eq_true rfl) hD ?_
  intro p e s m below meth c hlocks hr C hEs hA
  have hK := (hE.1 _ _ hEs).1
  have hlt : 11 < us.length := (List.getElem?_eq_some_iff.mp ht).1
  have hkl : k < wx.length := (List.getElem?_eq_some_iff.mp hwx).1
  refine gq_pick (lv' := [(0, .ref b), (1, zv v)]) [0, 1] rfl ?_
  refine gq_aln C 0 dX7_goOn_0 rfl rfl rfl ?_
  refine k_get (C0 := RX7) (T0 := TX7) (N := 13) C hK inlX7 k hwx rfl 11 (by decide) m_1608 (fun _ h9 => h9) ht dX7_goOn_1 rfl ?_
  refine gq_iln C 1 dX7_goOn_4 rfl rfl rfl ?_
  refine gq_add C dX7_goOn_5 rfl ?_
  refine gq_ldc C kc_X7_74 dX7_goOn_6 rfl ?_
  refine gq_cmp C 13 dX7_goOn_8 (by decide) ⟨by omega, by omega⟩ ⟨by omega, by omega⟩ rfl (fun c1 => ?_) (fun c1 => ?_)
  · have c1 : t + v ≤ 100000 := c1
    refine gq_aln C 0 dX7_goOn_13 rfl rfl rfl ?_
    refine gq_dup C dX7_goOn_14 rfl rfl ?_
    refine k_get (C0 := RX7) (T0 := TX7) (N := 13) C hK inlX7 k hwx rfl 11 (by decide) m_1608 (fun _ h9 => h9) ht dX7_goOn_15 rfl ?_
    refine gq_iln C 1 dX7_goOn_18 rfl rfl rfl ?_
    refine gq_add C dX7_goOn_19 rfl ?_
    refine k_put (C0 := RX7) (T0 := TX7) (N := 13) (ty := (tyX7 11)) (fr' := wx.set k (b, .inr (7, us.set 11 (zv (t + v))))) C hK inlX7 tyX7 tyX7_ok nmX7 k hwx rfl 11 (by decide) m_1608 (fun _ h9 => h9) rfl (by decide +kernel) rfl rfl hlt dX7_goOn_20 rfl rfl ?_
    refine gq_aln C 0 dX7_goOn_23 rfl rfl rfl ?_
    refine k_get (C0 := RX7) (T0 := TX7) (N := 13) C hK inlX7 k (by rw [List.getElem?_set_self hkl]) rfl 11 (by decide) m_1608 (fun _ h9 => h9) (by rw [List.getElem?_set_self hlt]) dX7_goOn_24 rfl ?_
    exact u_iret C hlocks hr dX7_goOn_27 (set_fst hwx) (Or.inl ⟨c1, rfl, rfl⟩)
  · have c1 : (100000 : Int) < t + v := c1
    refine gq_ic C dX7_goOn_11 rfl ?_
    exact u_iret C hlocks hr dX7_goOn_12 rfl (Or.inr ⟨by omega, rfl, rfl⟩)

set_option maxHeartbeats 4000000 in
theorem kl_later {l : Launch} {E : (Nat → Prop) → State → Prop} {cy : Nat → ClassId} {D : va_G} {wx : va_W} {x0 b k k0 : Nat} {us vs : List Value} {t v : Int} (hE : fx_env E D classes (tys cy) nestW) (hw0 : wx[k0]? = some (x0, .inr (11, vs))) (hs : vs[5]? = some (.ref b)) (hwx : wx[k]? = some (b, .inr (7, us))) (ht : us[11]? = some (zv t)) (h0 : 0 ≤ t ∧ t ≤ 100000) (hv : rg v) (hD : va_D (fun _ => True) wx) : ∀ sz : Nat, Met l yX11_later (Cond.code yX11_later cX11_later 2 (some .int) :: wsL_law) ({ frames := 1, cells := 0, slots := 0, locals := 21 }) (va_Pc [.ref x0, zv v] (fun U => U.heap.size = sz ∧ va_P D classes wx U.heap ∧ E (va_A wx sz) U)) (uQ D wx sz (LPx wx b k us t v)) 0 0 (va_A wx sz) := by
  refine u_of (cy := cy) (by decide +kernel) (Nat.le_of_ble_eq_true rfl) hD ?_
  intro p e s m below meth c hlocks hr C hEs hA
  have hK := (hE.1 _ _ hEs).1
  simp only [rg] at hv
  refine gq_pick (lv' := [(0, .ref x0), (1, zv v)]) [0, 1] rfl ?_
  refine gq_iln C 1 dX11_later_0 rfl rfl rfl ?_
  have out : ¬ (0 ≤ v ∧ v ≤ 1000 ∧ t + v ≤ 100000) → GW p l e ({ frames := 1, cells := 0, slots := 0, locals := 21 }) s m ([.ref x0, zv v] : List Value).toArray below meth c (MQ below (uQ D wx s.heap.size (LPx wx b k us t v)) ([.ref x0, zv v] : List Value).toArray s 0 0 (va_A wx s.heap.size)) cX11_later 2 0 0 11 [(0, .ref x0), (1, zv v)] [] (kP TX cy D (va_A wx s.heap.size) s.heap (fun gs => gs = []) wx []) := fun hn => by
    refine gq_ic C dX11_later_11 rfl ?_
    refine gq_goto C 23 dX11_later_12 (by decide) ?_
    exact u_iret C hlocks hr dX11_later_23 rfl (Or.inr ⟨hn, rfl, rfl⟩)
  refine gq_if C 11 dX11_later_1 (by decide) ⟨by omega, by omega⟩ rfl (fun c1 => out (by have c2 : v < 0 := c1; omega)) (fun c1 => ?_)
  have c1 : (0 : Int) ≤ v := c1
  refine gq_iln C 1 dX11_later_4 rfl rfl rfl ?_
  refine gq_si C dX11_later_5 (by decide +kernel) rfl ?_
  refine gq_cmp C 15 dX11_later_8 (by decide) ⟨by omega, by omega⟩ ⟨by omega, by omega⟩ rfl (fun c2 => ?_) (fun c2 => out (by have c3 : (1000 : Int) < v := c2; omega))
  have c2 : v ≤ 1000 := c2
  refine gq_aln C 0 dX11_later_15 rfl rfl rfl ?_
  refine k_get (C0 := RX11) (T0 := TX11) (N := 9) C hK inlX11 k0 hw0 rfl 5 (by decide) m_35 (fun _ h9 => h9) hs dX11_later_16 rfl ?_
  refine gq_iln C 1 dX11_later_19 rfl rfl rfl ?_
  intro H locs ls hl hh
  obtain ⟨pl, gs, ad, h1, h2, h3, h4, h5, h6, h7⟩ := hh
  subst h1
  have e0 : pl = [] := List.length_eq_zero_iff.mp h2.symm
  subst e0
  have hP : va_P D classes wx H := by rw [List.append_nil] at h5; exact h5
  refine w_call (cy := cy) (ws := wx) (wr := []) (ci := 7) (q0 := (RX7, TX7, 13)) (As := [zv v]) (rest := []) (POST := GP wx b k us t v) C hE hEs rfl hA hl (kl_goOn hE hwx ht h0 ⟨c1, c2⟩ hD H.size) (fun a st oc t hq => hq) ⟨Nat.le_of_ble_eq_true rfl, Nat.le_of_ble_eq_true rfl⟩ ⟨Nat.le_refl _, Nat.le_refl _⟩ rfl iV_X7_goOn g_X11_279 hwx dX11_later_20 rfl rfl (Nat.le_of_ble_eq_true rfl) hP (fun k q hk => by simp at hk) h6 h7 (fun ws1 rv H1 locs1 q1 _ q3 q4 q5 => ?_)
  have fin : ∀ z : Int, rv = some (zv z) → ws1.map Prod.fst = wx.map Prod.fst → LPx wx b k us t v (some (zv z)) ws1 → W p l e ({ frames := 1, cells := 0, slots := 0, locals := 21 }) s m ([.ref x0, zv v] : List Value).toArray below meth c H1 locs1 0 0 (MQ below (uQ D wx s.heap.size (LPx wx b k us t v)) ([.ref x0, zv v] : List Value).toArray s 0 0 (va_A wx s.heap.size)) (F0 m (20 + 3) ls (rv.toList ++ [])) := fun z e1 e2 e3 => by
    subst e1
    exact u_iret (cy := cy) C hlocks hr dX11_later_23 e2 e3 H1 locs1 ls hl ⟨[], [], [], rfl, rfl, ⟨rfl, fun k a e hk => by simp at hk⟩, (fun q hq => by simp at hq), (by rw [List.append_nil]; exact q1), q3, q4⟩
  rcases q5 with ⟨d1, d2, d3⟩ | ⟨d1, d2, d3⟩
  · exact fin _ d2 (by rw [d3]; exact set_fst hwx) (Or.inl ⟨c1, c2, d1, rfl, d3⟩)
  · exact fin _ d2 (by rw [d3]) (Or.inr ⟨by omega, rfl, d3⟩)

/-- what later does to the time -/
def LT (t v t1 r : Int) : Prop := (0 ≤ v ∧ v ≤ 1000 ∧ t + v ≤ 100000 ∧ t1 = t + v ∧ r = t + v) ∨ (¬ (0 ≤ v ∧ v ≤ 1000 ∧ t + v ≤ 100000) ∧ t1 = t ∧ r = -1)
section LBL
variable {l : Launch} {p : Program} {e : Env} {R : Room} {s : State} {m : MethodId} {args : Array Value} {below : List Frame} {meth : Method} {c : Code} {Q : State → Prop} {cc : ByteArray} {nL : Nat} {own : String} {pc pc' : Nat} {lv lv' : List (Nat × Value)} {st : List Value} {cl sl : Nat}
variable {E : (Nat → Prop) → State → Prop} {cy : Nat → ClassId} {D : va_G} {A : Nat → Prop} {H0 : Heap} {x0 m0 : Nat}
theorem l_xl {t v : Int} (hv : rg v) (C : gC p s m args c cc nL own) (hE : fx_env E D classes (tys cy) nestW) (hEs : E A s) (hH0 : H0 = s.heap) (hA : ∀ q, H0.size ≤ q → A q) {i : Nat} {rest : List Value} (h3 : 1 + 1 ≤ R.frames ∧ 8 + (2 + 11) + 21 ≤ R.locals) (hcl : cl ≤ R.cells ∧ sl ≤ R.slots) (h5 : yX11_later.cls = RX11 ∧ yX11_later.cls ≠ "java/lang/invoke/MethodHandle" ∧ yX11_later.cls ≠ "java/lang/invoke/VarHandle" ∧ (parseMethodDescriptor yX11_later.desc).map (fun d => d.parameters.length) = some 1) (h6 : GoodIn wsL_law (wsV own i RX11 yX11_later (Cond.code yX11_later cX11_later 2 (some .int) :: wsL_law))) (hdg : decode cc pc = .ok (.invokevirtual i, 3)) (hsum : (rest.map fun v => v.category).sum ≤ 8) (hp : pc + 3 = pc') (kk : ∀ t1 r : Int, 0 ≤ t ∧ t ≤ 100000 → LT t v t1 r → GW p l e R s m args below meth c Q cc nL cl sl pc' lv (zv r :: rest) (lQ cy D A H0 x0 m0 t1 t)) : GW p l e R s m args below meth c Q cc nL cl sl pc lv (zv v :: .ref x0 :: rest) (lQ cy D A H0 x0 m0 t t) := fun H locs ls hl hh => by
  subst hp
  obtain ⟨gx, ax, wx, am, wm, a1, a2, a3, b1, b2, b3, b4, hPx, hPm, hD, hS⟩ := hh
  have hb70 := fl_b (fi := 70) (lo := 0) (hi := 100000) b1 b2 rfl
  have hbt : 0 ≤ t ∧ t ≤ 100000 := by rw [← b4]; exact hb70
  obtain ⟨k0, vs, b, k, us, t1, t2, t3, t4⟩ := a3
  obtain ⟨kx, ka, kg⟩ := a2
  obtain ⟨vs', g1, g2, g3⟩ := wx_obj (g := 0) (ci := 11) a1 ka kg rfl
  have hDx := D_1 hD
  have e0 : k0 = kx := hDx.1 _ _ _ _ t1 g1 rfl
  subst e0
  rw [t1] at g1
  cases g1
  obtain ⟨v5, v6, k', b', v7, v8, v9⟩ := g3 5 _ rfl
  rw [t2] at v6
  cases v6
  cases v9
  have hg6 : gx[k']? = some 6 := by
    rcases v8 with ⟨_, q⟩ | ⟨q, _⟩
    · exact q
    · exact absurd (show 10000 ≤ 6 from q) (by decide)
  obtain ⟨us', u1, u2, u3⟩ := wx_obj (g := 6) (ci := 7) a1 v7 hg6 rfl
  have e1 : k' = k := hDx.1 _ _ _ _ u1 t3 rfl
  subst e1
  rw [t3] at u1
  cases u1
  have hne : ¬ k' = k0 := fun h => by rw [h, t1] at t3; cases t3
  refine w_call (cy := cy) (ws := wx) (wr := wm) (ci := 11) (q0 := (RX11, TX11, 9)) (As := [zv v]) (rest := rest) (POST := LPx wx b k' us t v) C hE hEs hH0 hA hl (kl_later hE t1 t2 t3 t4 (by rw [← b4]; exact hb70) hv hDx H.size) (fun a st oc t hq => hq) h3 hcl rfl h5 h6 t1 hdg rfl rfl hsum hPx hPm hD hS (fun ws1 rv H1 locs1 q1 q2 q3 q4 q5 => ?_)
  rcases q5 with ⟨d1, d2, d3, rfl, rfl⟩ | ⟨d1, rfl, rfl⟩
  · have hr : rg (t + v) := ⟨by omega, by omega⟩
    refine kk (t + v) (t + v) hbt (Or.inl ⟨d1, d2, d3, rfl, rfl⟩) H1 locs1 ls hl ⟨gx, ax, _, am, wm, fx_wo_set a1 t3 hg6 rfl (fx_ok_set u2 u3 rfl (ok_top _)), ⟨k0, ka, kg⟩, ?_, b1, b2, b3, b4, q1, q2, q3, q4⟩
    refine ⟨k0, vs, b, k', us.set 11 (zv (t + v)), ?_, t2, ?_, ?_⟩
    · rw [List.getElem?_set_ne hne]; exact t1
    · rw [List.getElem?_set_self (List.getElem?_eq_some_iff.mp t3).1]
    · rw [List.getElem?_set_self (List.getElem?_eq_some_iff.mp t4).1]
  · exact kk t (-1) hbt (Or.inr ⟨d1, rfl, rfl⟩) H1 locs1 ls hl ⟨gx, ax, _, am, wm, a1, ⟨k0, ka, kg⟩, ⟨k0, vs, b, k', us, t1, t2, t3, t4⟩, b1, b2, b3, b4, q1, q2, q3, q4⟩
theorem l_ml {tx t v : Int} (hv : rg v) (C : gC p s m args c cc nL own) (hE : fx_env E D classes (tys cy) nestW) (hEs : E A s) (hH0 : H0 = s.heap) (hA : ∀ q, H0.size ≤ q → A q) {i : Nat} {rest : List Value} (h3 : 1 + 1 ≤ R.frames ∧ 8 + (2 + 11) + 22 ≤ R.locals) (hcl : cl ≤ R.cells ∧ sl ≤ R.slots) (h5 : yX12_later.cls = RX12 ∧ yX12_later.cls ≠ "java/lang/invoke/MethodHandle" ∧ yX12_later.cls ≠ "java/lang/invoke/VarHandle" ∧ (parseMethodDescriptor yX12_later.desc).map (fun d => d.parameters.length) = some 1) (h6 : GoodIn wsL_law (wsV own i RX12 yX12_later (Cond.code yX12_later cX12_later 2 (some .int) :: wsL_law))) (hdg : decode cc pc = .ok (.invokevirtual i, 3)) (hsum : (rest.map fun v => v.category).sum ≤ 8) (hp : pc + 3 = pc') (kk : ∀ t1 r : Int, LT t v t1 r → GW p l e R s m args below meth c Q cc nL cl sl pc' lv (zv r :: rest) (lQ cy D A H0 x0 m0 tx t1)) : GW p l e R s m args below meth c Q cc nL cl sl pc lv (zv v :: .ref m0 :: rest) (lQ cy D A H0 x0 m0 tx t) := fun H locs ls hl hh => by
  subst hp
  obtain ⟨gx, ax, wx, am, wm, a1, a2, a3, b1, b2, b3, b4, hPx, hPm, hD, hS⟩ := hh
  have hM := h_later (l := l) hE m0 v b2 hv [.ref m0, zv v] wm H.size b1 (D_1 (D_comm hD)) ⟨rfl, trivial⟩
  obtain ⟨vs, hb0, -⟩ := tm_obj b1 b2 TM0
  refine w_call (cy := cy) (ws := wm) (wr := wx) (ci := 12) (q0 := (RX12, TX12, 74)) (As := [zv v]) (rest := rest) (POST := fun rv ws1 => fx_wo (gsM, TM, cy, fun _ => True) am ws1 ∧ JM ws1 ∧ ∃ r, rv = some (zv r) ∧ LT t v (vi ws1 0 70) r) C hE hEs hH0 hA hl hM (fun a st oc t hq => ?_) h3 hcl rfl h5 h6 hb0 hdg rfl rfl hsum hPm hPx (D_comm hD) hS (fun ws1 rv H1 locs1 q1 q2 q3 q4 q5 => ?_)
  · obtain ⟨⟨ws1, rv, e1, p1, p2, sm, p3⟩, hF⟩ := hq
    refine ⟨⟨ws1, rv, e1, p1, by rw [p2.1, b1.1], p2, JM_sm b1 p2 sm (AU_sm b1 p2 sm ⟨by decide, by decide⟩ b3.1) (by decide +kernel) b3, ?_⟩, hF⟩
    rw [b4] at p3
    rcases p3 with ⟨d1, d2, d3, d4, rfl⟩ | ⟨d1, d2, rfl⟩
    · exact ⟨_, rfl, Or.inl ⟨d1, d2, d3, d4, rfl⟩⟩
    · exact ⟨_, rfl, Or.inr ⟨d1, d2, rfl⟩⟩
  · obtain ⟨c1, c2, r, rfl, c3⟩ := q5
    exact kk _ r c3 H1 locs1 ls hl ⟨gx, ax, wx, am, ws1, a1, a2, a3, c1, b2, c2, rfl, q2, q1, D_comm q3, q4⟩
end LBL

