-- the walk
abbrev fx_K : Type := Nat × Nat × Nat × fx_C
def fx_rcv (T : List fx_G) (ci : Nat) (ps : List fx_T) : Bool := match ps with
  | t :: _ => match fx_ob T [t] (0, 0) with
    | some u => u.2.1 == ci
    | none => false
  | [] => false
/-- Math.max, Math.min, Math.abs -/
def fx_mt (k pc : Nat) (g : fx_S) : Option (List (Nat × fx_S)) := if k = 1003 then (match g.2.2.1 with
    | a :: S => match fx_iv g.1 a with
      | some i => if fx_cs g.1 S ≤ 8 then some [(pc + 3, fx_pu (g.1, g.2.1, S, g.2.2.2) (.inl (if fx_lo32 < i.1 then (0, max (-i.1) i.2) else fx_top)))] else none
      | none => none
    | _ => none)
  else match g.2.2.1 with
    | b :: a :: S => match fx_iv g.1 a, fx_iv g.1 b with
      | some i, some j => if fx_cs g.1 S ≤ 8 then some [(pc + 3, fx_pu (g.1, g.2.1, S, g.2.2.2) (.inl (if k = 1001 then (max i.1 j.1, max i.2 j.2) else (min i.1 j.1, min i.2 j.2))))] else none
      | _, _ => none
    | _ => none
def fx_EvM (Ts : List Cond) (own : String) (R : Room) (i k : Nat) : Prop := 1 ≤ R.frames ∧ 21 ≤ R.locals ∧ Cond.initialized "java/lang/Math" ∈ Ts ∧ (if k = 1003 then Cond.methodLink own i Lib.Math.abs.name ∈ Ts ∧ Cond.static Lib.Math.abs.name ∈ Ts ∧ Cond.code Lib.Math.abs.name Lib.Math.abs.code 1 (some .int) ∈ Ts
  else if k = 1001 then Cond.methodLink own i Lib.Math.max.name ∈ Ts ∧ Cond.static Lib.Math.max.name ∈ Ts ∧ Cond.code Lib.Math.max.name Lib.Math.max.code 2 (some .int) ∈ Ts
  else Cond.methodLink own i Lib.Math.min.name ∈ Ts ∧ Cond.static Lib.Math.min.name ∈ Ts ∧ Cond.code Lib.Math.min.name Lib.Math.min.code 2 (some .int) ∈ Ts)
def fx_s5 (T : List fx_G) (md : List (Nat × Nat)) (ct : List fx_K) (pc : Nat) (o : Instr) (len : Nat) (g : fx_S) : Option (List (Nat × fx_S)) := match o, len with
  | .invokestatic i, 3 => ct.findSome? fun q => if q.1 = pc ∧ q.2.1 = i then (if q.2.2.1 = 1000 then fx_ca T md pc q.2.2.2 g else if 1000 < q.2.2.1 then fx_mt q.2.2.1 pc g else none) else none
  | .invokevirtual i, 3 => ct.findSome? fun q => if q.1 = pc ∧ q.2.1 = i ∧ q.2.2.1 < 1000 ∧ fx_rcv T q.2.2.1 q.2.2.2.1 = true then fx_ca T md pc q.2.2.2 g else none
  | _, _ => none
/-- what the walk of a method's code knows of it: array classes, fields read and written, numbers, calls -/
abbrev fx_X : Type := List (Nat × Nat) × List (Nat × Nat × Nat) × List (Nat × Nat × Nat × Nat) × List (Nat × Int) × List (Nat × Int) × List fx_K
def fx_step (T : List fx_G) (nL : Nat) (md : List (Nat × Nat)) (x : fx_X) (pc : Nat) (o : Instr) (len : Nat) (g : fx_S) : Option (List (Nat × fx_S)) :=
  match fx_s1 nL pc o len g with
  | some l => some l
  | none => match fx_s2 pc o len g with
    | some l => some l
    | none => match fx_s3 pc o len g with
      | some l => some l
      | none => match fx_s4 T md x.1 x.2.1 x.2.2.1 x.2.2.2.1 x.2.2.2.2.1 pc o len g with
        | some l => some l
        | none => fx_s5 T md x.2.2.2.2.2 pc o len g
def fx_xok (l : Launch) (E : (Nat → Prop) → State → Prop) (Y : fx_Y) (ad : List Nat) (D : va_G) (cl : List vw_C) (tys : List (ClassId × FieldType)) (Ts nest : List Cond) (own : String) (R : Room) (x : fx_X) : Prop :=
  (∀ q ∈ x.1, fx_oc cl tys Y.2.2.1 q) ∧ (∀ q ∈ x.2.1, fx_gl Ts nest cl own q) ∧ (∀ q ∈ x.2.2.1, fx_pl Ts nest cl own q) ∧ (∀ q ∈ x.2.2.2.1, fx_k4 Ts own q) ∧ (∀ q ∈ x.2.2.2.2.1, fx_k8 Ts own q) ∧
  ∀ q ∈ x.2.2.2.2.2, (q.2.2.1 = 1000 → fx_EvS l E Y ad D cl Ts own R q.2.1 q.2.2.2) ∧ (q.2.2.1 < 1000 → fx_EvV l E Y ad D cl Ts own R q.2.1 q.2.2.1 q.2.2.2) ∧ (1000 < q.2.2.1 → fx_EvM Ts own R q.2.1 q.2.2.1)
section FXD
variable {Y : fx_Y} {ad : List Nat} {nL : Nat} {D : va_G} {cl : List vw_C} {A : Nat → Prop} {H0 : Heap} {md : List (Nat × Nat)} {w0 : va_W} {p : Program} {l : Launch} {e : Env} {R : Room} {s : State} {m : MethodId} {args : Array Value} {below : List Frame} {meth : Method} {c : Code} {Q : State → Prop} {cc : ByteArray} {pc : Nat} {r0 w : List Value} {ws : va_W} {H : Heap} {ls : Array Slot} {st : List Value} {locs : List Loc} {tys : List (ClassId × FieldType)}
theorem fx_mt_ok {Ts : List Cond} {own : String} (hexec : p.tables.exec = Jvm.exec) (hb : c.code = cc) (hml : c.maxLocals = nL) (hts : ∀ w ∈ Ts, w.before args s = true) (hown : s.vm.findClass own = some m.cls) {i k : Nat} (hev : fx_EvM Ts own R i k) (hdg : decode cc pc = .ok (.invokestatic i, 3)) {g : fx_S} {l' : List (Nat × fx_S)} (hs : fx_mt k pc g = some l') (hk : ∀ q ∈ l', fx_W Y ad nL D cl A H0 md w0 p l e R s m args below meth c Q r0 q.1 q.2) (hg : fx_g Y ad nL g (r0 ++ w) ws ls st) (hh : fx_hp Y ad D cl A H0 md w0 ws H locs) : W p l e R s m args below meth c H locs 0 0 Q (F0 m pc ls st) := by
  obtain ⟨G, L, S, F⟩ := g
  obtain ⟨v1, v2, v3, v4⟩ := hev
  have hls : c.maxLocals = ls.size := by rw [hml, hg.2.1.1]
  unfold fx_mt at hs
  split at hs
  · rename_i hk3
    rw [if_pos hk3] at v4
    split at hs
    · rename_i a S hS
      simp only [] at hS
      subst hS
      obtain ⟨u, st', rfl, h1, h3⟩ := fx_g1 hg
      split at hs
      · rename_i i1 hi
        split at hs
        · rename_i hc
          cases hs
          obtain ⟨x, rfl, hx⟩ := fx_iv_ok hg.1 hi h1
          have hr := Nat.le_trans (fx_cs_ok hg.1 _ _ h3.2.2.1) hc
          refine va_mabs hexec hb hls hown (hts _ v4.1) (hts _ v4.2.1) (hts _ v3) (hts _ v4.2.2) v1 (by omega) (by omega) (by omega) hdg (fx_kp (hk _ List.mem_cons_self) h3 hh ?_)
          refine ⟨_, rfl, ?_⟩
          have r1 := fx_r32 x
          split
          · rename_i hlo
            split
            · rename_i h0
              have h0' : (0 : Int) ≤ x.toInt := Int32.le_iff_toInt_le.mp h0
              exact ⟨h0', by simp only []; omega⟩
            · rename_i h0
              have h0' : ¬ (0 : Int) ≤ x.toInt := fun q => h0 (Int32.le_iff_toInt_le.mpr q)
              have e : (0 - x).toInt = -x.toInt := by
                rw [Int32.toInt_sub]
                have : (0 : Int32).toInt = 0 := rfl
                rw [this, Int.zero_sub]
                exact fx_bm (by unfold fx_lo32 at *; unfold fx_hi32 at *; omega) (by unfold fx_lo32 at *; unfold fx_hi32 at *; omega)
              rw [e]
              exact ⟨by simp only []; omega, by simp only []; omega⟩
          · exact fx_r32 _
        · cases hs
      · cases hs
    · cases hs
  · rename_i hk3
    rw [if_neg hk3] at v4
    split at hs
    · rename_i b a S hS
      simp only [] at hS
      subst hS
      obtain ⟨u, v, st', rfl, h1, h2, h3⟩ := fx_g2 hg
      split at hs
      · rename_i i1 j1 hi hj
        split at hs
        · rename_i hc
          cases hs
          obtain ⟨x, rfl, hx⟩ := fx_iv_ok hg.1 hi h1
          obtain ⟨y, rfl, hy⟩ := fx_iv_ok hg.1 hj h2
          have hr := Nat.le_trans (fx_cs_ok hg.1 _ _ h3.2.2.1) hc
          have a1 := hx.1; have a2 := hx.2; have b1 := hy.1; have b2 := hy.2
          by_cases h1001 : k = 1001
          · rw [if_pos h1001] at v4
            refine va_mmax hexec hb hls hown (hts _ v4.1) (hts _ v4.2.1) (hts _ v3) (hts _ v4.2.2) v1 (by omega) (by omega) (by omega) hdg (fx_kp (hk _ List.mem_cons_self) h3 hh ?_)
            rw [if_pos h1001]
            refine ⟨_, rfl, ?_⟩
            split
            · rename_i q; have q' := Int32.lt_iff_toInt_lt.mp q; exact ⟨by simp only []; omega, by simp only []; omega⟩
            · rename_i q; have q' := mt Int32.lt_iff_toInt_lt.mpr q; exact ⟨by simp only []; omega, by simp only []; omega⟩
          · rw [if_neg h1001] at v4
            refine va_mmin hexec hb hls hown (hts _ v4.1) (hts _ v4.2.1) (hts _ v3) (hts _ v4.2.2) v1 (by omega) (by omega) (by omega) hdg (fx_kp (hk _ List.mem_cons_self) h3 hh ?_)
            rw [if_neg h1001]
            refine ⟨_, rfl, ?_⟩
            split
            · rename_i q; have q' := Int32.lt_iff_toInt_lt.mp q; exact ⟨by simp only []; omega, by simp only []; omega⟩
            · rename_i q; have q' := mt Int32.lt_iff_toInt_lt.mpr q; exact ⟨by simp only []; omega, by simp only []; omega⟩
        · cases hs
      · cases hs
    · cases hs
theorem fx_step_ok {Ts nest : List Cond} {own : String} {E : (Nat → Prop) → State → Prop} {x : fx_X} (hE : fx_env E D cl tys nest) (hEs : E A s) (hH0 : H0 = s.heap) (hfA : ∀ g, (1000, g) ∈ md → fx_fr Y [(1000, g)]) (hfF : ∀ q ∈ x.2.2.1, fx_fr Y [(q.2.1, q.2.2.1)]) (hexec : p.tables.exec = Jvm.exec) (hb : c.code = cc) (hml : c.maxLocals = nL) (hts : ∀ w ∈ Ts, w.before args s = true) (hown : s.vm.findClass own = some m.cls) (htb : fx_tb tys Y.2.2.1) (hA0 : ∀ q, H0.size ≤ q → A q) (hx : fx_xok l E Y ad D cl tys Ts nest own R x)
    {o : Instr} {len : Nat} (hdg : decode cc pc = .ok (o, len)) {g : fx_S} {l' : List (Nat × fx_S)} (hs : fx_step Y.2.1 nL md x pc o len g = some l') (hk : ∀ q ∈ l', fx_W Y ad nL D cl A H0 md w0 p l e R s m args below meth c Q r0 q.1 q.2) : fx_W Y ad nL D cl A H0 md w0 p l e R s m args below meth c Q r0 pc g := by
  have hK := (hE.1 A s hEs).1
  have hN := (hE.1 A s hEs).2
  unfold fx_step at hs
  split at hs
  · rename_i l1 h1
    cases hs
    exact fx_s1_ok hexec hb hdg h1 hk
  · split at hs
    · rename_i l1 h1
      cases hs
      exact fx_s2_ok hexec hb hdg h1 hk
    · split at hs
      · rename_i l1 h1
        cases hs
        exact fx_s3_ok hexec hb hdg h1 hk
      · split at hs
        · rename_i l1 h1
          cases hs
          exact fx_s4_ok hexec hb hts hN hown hK htb hx.1 hx.2.1 hx.2.2.1 hfA hfF hx.2.2.2.1 hx.2.2.2.2.1 hdg h1 hk
        · unfold fx_s5 at hs
          split at hs
          · obtain ⟨q, hq, h1⟩ := List.exists_of_findSome?_eq_some hs
            split at h1
            · rename_i hc
              obtain ⟨-, rfl⟩ := hc
              intro w ws H ls st locs hg hh
              split at h1
              · rename_i c2
                exact fx_caS_ok hE hEs hH0 hexec hb hml hts hown hA0 ((hx.2.2.2.2.2 q hq).1 c2) hdg h1 hk hg hh
              · split at h1
                · rename_i c2
                  exact fx_mt_ok hexec hb hml hts hown ((hx.2.2.2.2.2 q hq).2.2 c2) hdg h1 hk hg hh
                · cases h1
            · cases h1
          · obtain ⟨q, hq, h1⟩ := List.exists_of_findSome?_eq_some hs
            split at h1
            · rename_i hc
              obtain ⟨-, rfl, c2, c3⟩ := hc
              intro w ws H ls st locs hg hh
              exact fx_caV_ok hE hEs hH0 hexec hb hml hts hown hA0 ((hx.2.2.2.2.2 q hq).2.1 c2) hdg c3 h1 hk hg hh
            · cases h1
          · cases hs
end FXD
-- the end of a method
def fx_prt (G : List fx_T) (pm : List (Nat × Nat)) : Nat → List fx_T → List fx_T → Bool
  | _, [], [] => true
  | j, t0 :: l0, t :: l => (fx_tsub t0 t || (match pm.find? (fun q => q.1 == j) with
      | some q => fx_sbt G (q.2, 0) t
      | none => false)) && fx_prt G pm (j + 1) l0 l
  | _, _, _ => false
def fx_pth (pm : List (Nat × Nat)) : Nat → Nat → Option (List fx_V)
  | _, 0 => some []
  | j, n + 1 => match pm.find? (fun q => q.1 == j), fx_pth pm (j + 1) n with
    | some q, some ts => some ((q.2, 0) :: ts)
    | _, _ => none
def fx_pc (T : List fx_G) (c0 : fx_C) (pm : List (Nat × Nat)) (g : fx_S) (po : fx_P) : Bool := fx_prt g.1 pm 0 c0.1 po.2.1 && (if po.2.2.isEmpty then true else match fx_pth pm 0 c0.1.length with
  | some ts => (fx_el1 T g ts po.2.2).isSome
  | none => false)
def fx_pmo (r av : List Value) (pm : List (Nat × Nat)) : Prop := ∀ q ∈ pm, ∃ v, r[q.2]? = some v ∧ av[q.1]? = some v
theorem fx_prt_ok {Y : fx_Y} {ad : List Nat} {G : List fx_T} {r av : List Value} {pm : List (Nat × Nat)} (hG : fx_ty Y ad G r) (hp : fx_pmo r av pm) : ∀ (l0 l : List fx_T) (j : Nat), fx_prt G pm j l0 l = true → (∀ (i : Nat) (t : fx_T), l0[i]? = some t → ∃ v, av[j + i]? = some v ∧ fx_ok Y.1 ad t v) → l.length = l0.length ∧ ∀ (i : Nat) (t : fx_T), l[i]? = some t → ∃ v, av[j + i]? = some v ∧ fx_ok Y.1 ad t v
  | [], [], j, _, _ => ⟨rfl, fun i t h => by simp at h⟩
  | [], _ :: _, _, h, _ => by simp [fx_prt] at h
  | _ :: _, [], _, h, _ => by simp [fx_prt] at h
  | t0 :: l0, t :: l, j, h, h0 => by
    simp only [fx_prt, Bool.and_eq_true] at h
    have ih := fx_prt_ok hG hp l0 l (j + 1) h.2 (fun i t hi => by
      have := h0 (i + 1) t (by simpa using hi)
      rw [show j + 1 + i = j + (i + 1) by omega]; exact this)
    refine ⟨by simp [ih.1], fun i t' hi => ?_⟩
    cases i with
    | zero =>
      simp at hi
      subst hi
      obtain ⟨v, v1, v2⟩ := h0 0 t0 rfl
      rcases Bool.or_eq_true _ _ ▸ h.1 with h1 | h1
      · exact ⟨v, v1, fx_tsub_ok h1 v2⟩
      · split at h1
        · rename_i q hq
          have hqm := List.mem_of_find?_eq_some hq
          have hqi := List.find?_some hq
          simp at hqi
          obtain ⟨u, u1, u2⟩ := hp q hqm
          rw [hqi] at u2
          exact ⟨u, by simpa using u2, fx_sbt_ok hG (fx_v_0 u1) h1⟩
        · cases h1
    | succ i =>
      have := ih.2 i t' (by simpa using hi)
      rw [show j + 1 + i = j + (i + 1) by omega] at this
      exact this
theorem fx_pth_ok {r av : List Value} {pm : List (Nat × Nat)} (hp : fx_pmo r av pm) : ∀ (n j : Nat) (ts : List fx_V), fx_pth pm j n = some ts → j + n = av.length → fx_st r ts (av.drop j)
  | 0, j, ts, h, hl => by
    simp only [fx_pth, Option.some.injEq] at h
    subst h
    rw [List.drop_eq_nil_of_le (by omega)]
    rfl
  | n + 1, j, ts, h, hl => by
    simp only [fx_pth] at h
    split at h
    · rename_i q ts' hq hts
      cases h
      have hqm := List.mem_of_find?_eq_some hq
      have hqi := List.find?_some hq
      simp at hqi
      obtain ⟨u, u1, u2⟩ := hp q hqm
      rw [hqi] at u2
      have ih := fx_pth_ok hp n (j + 1) ts' hts (by omega)
      have hj : j < av.length := by omega
      rw [List.drop_eq_getElem_cons hj]
      have e : av[j] = u := by rw [List.getElem?_eq_getElem hj] at u2; exact Option.some.inj u2
      rw [e]
      exact fx_st_push (fx_v_0 u1) ih
    · cases h
theorem fx_pc_ok {Y : fx_Y} {ad : List Nat} {nL : Nat} {A : Nat → Prop} {c0 : fx_C} {pm : List (Nat × Nat)} {g : fx_S} {r av : List Value} {ws : va_W} {ls : Array Slot} {st : List Value} {po : fx_P} (hg : fx_g Y ad nL g r ws ls st) (hw : fx_wo Y ad ws) (hD : va_D A ws) (hav : fx_ty Y ad c0.1 av) (hp : fx_pmo r av pm) (h : fx_pc Y.2.1 c0 pm g po = true) : fx_ty Y ad po.2.1 av ∧ ∃ rt, fx_fs Y ad ws av po.2.2 rt := by
  unfold fx_pc at h
  rw [Bool.and_eq_true] at h
  have h1 := fx_prt_ok hg.1 hp c0.1 po.2.1 0 h.1 (fun i t hi => by simpa using hav.2 i t hi)
  refine ⟨⟨by rw [hav.1, h1.1], fun i t hi => by simpa using h1.2 i t hi⟩, ?_⟩
  have h2 := h.2
  split at h2
  · rename_i he
    have : po.2.2 = [] := by simpa using he
    rw [this]
    exact ⟨av, rfl⟩
  · split at h2
    · rename_i ts hts
      have h3 := fx_pth_ok hp c0.1.length 0 ts hts (by rw [hav.1]; omega)
      rw [List.drop_zero] at h3
      obtain ⟨q, hq⟩ := Option.isSome_iff_exists.mp h2
      obtain ⟨w, rt, -, h5, -⟩ := fx_el1_ok hw hD po.2.2 g ts q r av hg h3 hq
      exact ⟨rt, h5⟩
    · cases h2
