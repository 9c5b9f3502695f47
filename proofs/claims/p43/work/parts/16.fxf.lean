-- a method as a whole
def fx_wd (t : fx_T) : Nat := match t with
  | .inr (.inl _) => 2
  | _ => 1
def fx_lp : Nat → Nat → List fx_T → fx_L
  | _, _, [] => []
  | p, n, t :: l => (p, (n, 0)) :: fx_lp (p + fx_wd t) (n + 1) l
def fx_pm0 (n : Nat) : List (Nat × Nat) := (List.range n).map fun j => (j, j)
def fx_est (c0 : fx_C) : fx_S := (c0.1 ++ c0.2.1.map Prod.snd, fx_lp 0 0 c0.1, [], fx_fx c0.1.length c0.2.1)
def fx_chk (T : List fx_G) (nL : Nat) (c0 : fx_C) (rk : Nat) (x : fx_X) (tb : List (Nat × Instr × Nat)) (an : List fx_N) (sp : List fx_D) (n : Nat) : Bool :=
  decide ((c0.1.map fx_wd).sum ≤ nL) && fx_run T nL c0 rk x tb an sp (fx_pm0 c0.1.length) none n false 0 (fx_est c0) &&
  an.all fun N => fx_run T nL c0 rk x tb an sp N.2.2.2.2 (some (N.2.1.length + N.2.2.1.length, N.2.2.2.1)) n true N.1 (fx_nst N)
theorem fx_cat {gs ad : List Nat} {t : fx_T} {v : Value} (h : fx_ok gs ad t v) : v.category = fx_wd t := by
  rcases t with i | i | i
  · obtain ⟨x, rfl, -⟩ := h; rfl
  · obtain ⟨x, rfl, -⟩ := h; rfl
  · cases i with
    | zero => simp only [fx_ok] at h; subst h; rfl
    | succ g => obtain ⟨k, b, -, -, rfl⟩ := h; rfl
theorem fx_lp_ok {Y : fx_Y} {ad : List Nat} {r : List Value} : ∀ (ts : List fx_T) (av : List Value) (p n : Nat), fx_ty Y ad ts av → (∀ i v, av[i]? = some v → r[n + i]? = some v) → ∀ q ∈ fx_lp p n ts, ∃ v, fx_v r q.2 = some v ∧ (q.1, v) ∈ lv_args p av
  | [], av, p, n, h, hr, q, hq => by simp [fx_lp] at hq
  | t :: ts, av, p, n, h, hr, q, hq => by
    obtain ⟨v, v1, v2⟩ := h.2 0 t rfl
    cases av with
    | nil => cases v1
    | cons u av =>
      simp only [List.getElem?_cons_zero, Option.some.injEq] at v1
      subst v1
      simp only [fx_lp] at hq
      simp only [lv_args]
      rcases List.mem_cons.mp hq with rfl | hq
      · exact ⟨u, fx_v_0 (by simpa using hr 0 u rfl), List.mem_cons_self⟩
      · have h' : fx_ty Y ad ts av := ⟨by have := h.1; simpa using this, fun i t' hi => by simpa using h.2 (i + 1) t' (by simpa using hi)⟩
        obtain ⟨v, w1, w2⟩ := fx_lp_ok ts av (p + fx_wd t) (n + 1) h' (fun i v hv => by
          have := hr (i + 1) v (by simpa using hv)
          rw [show n + 1 + i = n + (i + 1) by omega]; exact this) q hq
        refine ⟨v, w1, List.mem_cons_of_mem _ ?_⟩
        have hc := fx_cat v2
        have e : (if u.category = 2 then p + 2 else p + 1) = p + fx_wd t := by
          rw [hc]
          rcases t with i | i | i <;> simp [fx_wd]
        rw [e]
        exact w2
theorem fx_sl_len {Y : fx_Y} {ad : List Nat} : ∀ (ts : List fx_T) (av : List Value), fx_ty Y ad ts av → (lg_sl av).length = (ts.map fx_wd).sum
  | [], av, h => by
    have : av = [] := List.length_eq_zero_iff.mp h.1
    subst this
    rfl
  | t :: ts, av, h => by
    obtain ⟨v, v1, v2⟩ := h.2 0 t rfl
    cases av with
    | nil => cases v1
    | cons u av =>
      simp only [List.getElem?_cons_zero, Option.some.injEq] at v1
      subst v1
      have h' : fx_ty Y ad ts av := ⟨by have := h.1; simpa using this, fun i t' hi => by simpa using h.2 (i + 1) t' (by simpa using hi)⟩
      have ih := fx_sl_len ts av h'
      have hc := fx_cat v2
      have e : lg_sl (u :: av) = (if u.category = 2 then [.val u, .second] else [.val u]) ++ lg_sl av := by simp [lg_sl]
      rw [e, List.length_append, ih, List.map_cons, List.sum_cons, hc]
      rcases t with i | i | i <;> simp [fx_wd]
theorem fx_sound {l : Launch} {E : (Nat → Prop) → State → Prop} {Y : fx_Y} {ad : List Nat} {D : va_G} {cl : List vw_C} {tys : List (ClassId × FieldType)} {nest : List Cond} {y : MethodName} {cc : ByteArray} {nL : Nat} {ret : Option FieldType} {wm : List Cond} {rm : Room} {c0 : fx_C} {rk : Nat} {x : fx_X} {tb : List (Nat × Instr × Nat)} {an : List fx_N} {sp : List fx_D} (n : Nat)
    (hE : fx_env E D cl tys nest) (hfA : ∀ g, (1000, g) ∈ c0.2.2.2 → fx_fr Y [(1000, g)]) (hfF : ∀ q ∈ x.2.2.1, fx_fr Y [(q.2.1, q.2.2.1)]) (htb : fx_tb tys Y.2.2.1) (hy : plainName y.cls = true) (hrk : fx_rk rk ret) (hx : fx_xok l E Y ad D cl tys wm nest y.cls rm x) (hdec : ∀ q ∈ tb, decode cc q.1 = .ok q.2) (hchk : fx_chk Y.2.1 nL c0 rk x tb an sp n = true) : fx_Met l y (Cond.code y cc nL ret :: wm) rm E Y ad D cl c0 := by
  intro av ws sz rt hav hfs hwo hI0 hD0
  refine Met.ofW (cc := cc) (maxL := nL) (ret := ret) hy rfl ?_
  intro p e s m args below meth c s₁ B hml hv
  obtain ⟨rfl, hsz, hP, hEs⟩ := hv
  subst hsz
  have hexec := B.exec
  have hb := B.bytes
  have hr := B.returns
  have hts0 := atoms_spec (ws := Cond.code y cc nL ret :: wm) B.pre
  have hts : ∀ w ∈ wm, w.before _ s = true := fun w h => hts0 w (List.mem_cons_of_mem _ h)
  have hown : s.vm.findClass y.cls = some m.cls := findClass_of_methodNamed B.named
  have hlocks := B.notSynchronized
  have hrk' : fx_rk rk meth.sig.returnType := by rw [hr]; exact hrk
  unfold fx_chk at hchk
  simp only [Bool.and_eq_true, decide_eq_true_eq] at hchk
  obtain ⟨⟨k1, k2⟩, k3⟩ := hchk
  have hD : va_D (va_A ws s.heap.size) ws := hD0.self
  have loops : ∀ (k : Nat) (N : fx_N), N ∈ an → ∀ rN : List Value, fx_pmo rN av N.2.2.2.2 → fx_mv rN N.2.2.2.1 < k → ∀ (wss : va_W) (H : Heap) (ls : Array Slot) (st : List Value) (locs : List Loc), fx_g Y ad nL (fx_nst N) rN wss ls st → fx_hp Y ad D cl (va_A ws s.heap.size) s.heap c0.2.2.2 ws wss H locs → W p l e rm s m av.toArray below meth c H locs 0 0 (MQ below (fx_Qc Y ad D cl c0 av ws s.heap.size) av.toArray s 0 0 (va_A ws s.heap.size)) (F0 m N.1 ls st) := by
    intro k
    induction k with
    | zero => intro N _ rN _ h; omega
    | succ k ih =>
      intro N hN rN hpm hk wss H ls st locs hg hh
      have hrun := List.all_eq_true.mp k3 N hN
      have hlen : rN.length = N.2.1.length + N.2.2.1.length := by rw [hg.1.1]; simp [fx_nst]
      have hW := fx_run_ok (w0 := ws) (p := p) (e := e) (args := av.toArray) (below := below) (meth := meth) (c := c) (s := s) (m := m) (r0 := rN) hE hEs hfA hfF hexec hb hml hlocks hrk' hts hown htb hx hdec hav hpm (fun u hu => by cases hu; exact hlen) (fun N' hN' rN' hpm' hlt wss H ls st locs hg hh => ih N' hN' rN' hpm' (by have := hlt _ rfl; simp only [] at this; omega) wss H ls st locs hg hh) n true N.1 (fx_nst N) hrun
      exact hW [] wss H ls st locs (by rw [List.append_nil]; exact hg) hh
  obtain ⟨w3, e3⟩ := fx_fs_pre _ _ _ hfs
  obtain ⟨b1, b2⟩ := fx_fs_ty c0.2.1 _ av rt hav hfs
  have hpm0 : fx_pmo rt av (fx_pm0 c0.1.length) := by
    intro q hq
    obtain ⟨j, hj, rfl⟩ := List.mem_map.mp hq
    have hj' : j < av.length := by rw [hav.1]; exact List.mem_range.mp hj
    exact ⟨av[j], by rw [e3]; exact fx_get_mono _ (List.getElem?_eq_getElem hj'), List.getElem?_eq_getElem hj'⟩
  have hW := fx_run_ok (w0 := ws) (p := p) (e := e) (args := av.toArray) (below := below) (meth := meth) (c := c) (s := s) (m := m) (r0 := rt) hE hEs hfA hfF hexec hb hml hlocks hrk' hts hown htb hx hdec hav hpm0 (fun u hu => by cases hu) (fun N' hN' rN' hpm' _ wss H ls st locs hg hh => loops _ N' hN' rN' hpm' (Nat.lt_succ_self _) wss H ls st locs hg hh) n false 0 (fx_est c0) k2
  have hl := lv_entry av (n := nL) (by rw [fx_sl_len c0.1 av hav]; exact k1)
  rw [lg_entry_eq]
  refine hW [] ws s.heap _ [] [] ?_ ⟨hwo, hP, hD, va_S.rf, ?_⟩
  · rw [List.append_nil]
    refine ⟨b1, ⟨hl.1, hl.2.1, fun q hq => ?_⟩, rfl, b2⟩
    obtain ⟨v, v1, v2⟩ := fx_lp_ok (r := rt) c0.1 av 0 0 hav (fun i v hv => by rw [Nat.zero_add, e3]; exact fx_get_mono _ hv) q hq
    exact ⟨v, v1, hl.2.2 _ v2⟩
  · exact ⟨fx_sm_refl, hI0⟩
theorem fx_mono {l : Launch} {y : MethodName} {ws : List Cond} {rm : Room} {Pc Pc' : Array Value → State → Prop} {Qc Qc' : Array Value → State → Outcome → State → Prop} {mc ms : Nat} {free : Addr → Prop} (h : Met l y ws rm Pc Qc mc ms free) (hp : ∀ a s, Pc' a s → Pc a s) (hq : ∀ a s o t, Pc' a s → Qc a s o t → Qc' a s o t) : Met l y ws rm Pc' Qc' mc ms free := by
  intro p e h1 h2 h3 s m args below hf ha hP hK
  obtain ⟨n, o, a, b, c, q, L⟩ := h p e h1 h2 h3 s m args below hf ha (hp _ _ hP) hK
  exact ⟨n, o, a, b, c, hq _ _ _ _ hP q, L⟩
theorem fx_fs_I {gs : List Nat} {T : List fx_G} {cy : Nat → ClassId} {I J : va_W → Prop} {ad : List Nat} {ws : va_W} : ∀ (l : List fx_Q) (r r' : List Value), fx_fs (gs, T, cy, I) ad ws r l r' → fx_fs (gs, T, cy, J) ad ws r l r'
  | [], r, r', h => h
  | q :: l, r, r', h => by
    obtain ⟨a, k, e, v, h1, h2, h3, h4, h5⟩ := h
    exact ⟨a, k, e, v, h1, h2, h3, h4, fx_fs_I l _ _ h5⟩
/-- a contract without an invariant as one with it -/
theorem fx_lift {l : Launch} {y : MethodName} {wm : List Cond} {rm : Room} {E : (Nat → Prop) → State → Prop} {gs : List Nat} {T : List fx_G} {cy : Nat → ClassId} {I : va_W → Prop} {ad : List Nat} {D : va_G} {cl : List vw_C} {c : fx_C}
    (h : fx_Met l y wm rm E (gs, T, cy, fun _ => True) ad D cl c)
    (hI : ∀ (av : List Value) (w w' : va_W) (rv : Option Value) (po : fx_P), fx_ty (gs, T, cy, I) ad c.1 av → fx_wo (gs, T, cy, I) ad w → fx_wo (gs, T, cy, I) ad w' → fx_sm (gs, T, cy, I) c.2.2.2 w w' → po ∈ c.2.2.1 → fx_po (gs, T, cy, I) ad po av w' rv → I w → I w') :
    fx_Met l y wm rm E (gs, T, cy, I) ad D cl c := by
  intro av ws sz rt hav hfs hwo hi hD
  have hM := h av ws sz rt hav (fx_fs_I _ _ _ hfs) hwo trivial hD
  refine fx_mono hM (fun a s h => h) (fun a s oc t _ hq => ?_)
  · obtain ⟨⟨ws1, rv, e1, p1, p2, -, p3, po, m1, p4⟩, p5⟩ := hq
    have p4' : fx_po (gs, T, cy, I) ad po av ws1 rv := ⟨p4.1, p4.2.1, p4.2.2.elim fun rt2 h2 => ⟨rt2, fx_fs_I _ _ _ h2⟩⟩
    exact ⟨⟨ws1, rv, e1, p1, p2, hI av ws ws1 rv po hav hwo p2 p3 m1 p4' hi, p3, po, m1, p4'⟩, p5⟩
