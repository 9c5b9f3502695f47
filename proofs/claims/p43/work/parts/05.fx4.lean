-- reckoning, the stack, tests
def fx_l64 : Int × Int := (-9223372036854775808, 9223372036854775807)
theorem fx_r64 (x : Int64) : fx_l64.1 ≤ x.toInt ∧ x.toInt ≤ fx_l64.2 := by
  have h1 := Int64.le_toInt x
  have h2 := Int64.toInt_lt x
  unfold fx_l64
  simp only []
  omega
def fx_bn (o : Instr) (pc : Nat) (g : fx_S) : Option (List (Nat × fx_S)) := match g.2.2.1 with
  | b :: a :: S => match fx_iv g.1 a, fx_iv g.1 b with
    | some i, some j => match fx_bin o i j with
      | some k => some [(pc + 1, fx_pu (g.1, g.2.1, S, g.2.2.2) (.inl k))]
      | none => none
    | _, _ => none
  | _ => none
def fx_ad (pc : Nat) (g : fx_S) : Option (List (Nat × fx_S)) := match g.2.2.1 with
  | b :: a :: S => match fx_iv g.1 a, fx_iv g.1 b with
    | some i, some j => if j.1 = j.2 then some [(pc + 1, (g.1, g.2.1, (a.1, a.2 + j.1) :: S, g.2.2.2))]
      else if i.1 = i.2 then some [(pc + 1, (g.1, g.2.1, (b.1, b.2 + i.1) :: S, g.2.2.2))] else fx_bn .iadd pc g
    | _, _ => none
  | _ => none
def fx_sb (pc : Nat) (g : fx_S) : Option (List (Nat × fx_S)) := match g.2.2.1 with
  | b :: a :: S => match fx_iv g.1 a, fx_iv g.1 b with
    | some _, some j => if j.1 = j.2 then some [(pc + 1, (g.1, g.2.1, (a.1, a.2 + -j.1) :: S, g.2.2.2))] else fx_bn .isub pc g
    | _, _ => none
  | _ => none
def fx_un (pc : Nat) (g : fx_S) (f : Int × Int → fx_T) : Option (List (Nat × fx_S)) := match g.2.2.1 with
  | a :: S => match fx_iv g.1 a with
    | some i => some [(pc + 1, fx_pu (g.1, g.2.1, S, g.2.2.2) (f i))]
    | none => none
  | _ => none
def fx_ll (pc : Nat) (g : fx_S) (k1 k2 : Nat) : Option (List (Nat × fx_S)) := match g.2.2.1 with
  | b :: a :: S => if fx_kd g.1 a = k1 ∧ fx_kd g.1 b = k2 then some [(pc + 1, fx_pu (g.1, g.2.1, S, g.2.2.2) (.inr (.inl fx_l64)))] else none
  | _ => none
def fx_rl (G : List fx_T) (a : fx_V) (i : Int × Int) : Option (List fx_T) := match G[a.1]? with
  | some (.inr (.inl j)) => if max j.1 i.1 ≤ min j.2 i.2 then some (G.set a.1 (.inr (.inl (max j.1 i.1, min j.2 i.2)))) else none
  | _ => some G
def fx_lc (pc : Nat) (g : fx_S) : Option (List (Nat × fx_S)) := match g.2.2.1 with
  | b :: a :: S => match g.1[a.1]?, g.1[b.1]? with
    | some (.inr (.inl i)), some (.inr (.inl j)) => some (
        ((fx_rl g.1 a (fx_l64.1, j.2 - 1)).toList.map fun G => (pc + 1, fx_pu (G, g.2.1, S, g.2.2.2) (.inl (-1, -1)))) ++
        ((fx_rl g.1 a (j.1, j.2)).toList.map fun G => (pc + 1, fx_pu (G, g.2.1, S, g.2.2.2) (.inl (0, 0)))) ++
        ((fx_rl g.1 a (j.1 + 1, fx_l64.2)).toList.map fun G => (pc + 1, fx_pu (G, g.2.1, S, g.2.2.2) (.inl (1, 1)))))
    | _, _ => none
  | _ => none
def fx_s2 (pc : Nat) (o : Instr) (len : Nat) (g : fx_S) : Option (List (Nat × fx_S)) := match o, len with
  | .iadd, 1 => fx_ad pc g
  | .isub, 1 => fx_sb pc g
  | .imul, 1 => fx_bn .imul pc g
  | .iand, 1 => fx_bn .iand pc g
  | .ior, 1 => fx_bn .ior pc g
  | .ixor, 1 => fx_bn .ixor pc g
  | .ishl, 1 => fx_bn .ishl pc g
  | .ishr, 1 => fx_bn .ishr pc g
  | .iushr, 1 => fx_bn .iushr pc g
  | .idiv, 1 => fx_bn .idiv pc g
  | .irem, 1 => fx_bn .irem pc g
  | .ineg, 1 => fx_un pc g (fun i => .inl (fx_nm (-i.2) (-i.1)))
  | .i2b, 1 => fx_un pc g (fun _ => .inl (-128, 127))
  | .i2c, 1 => fx_un pc g (fun _ => .inl (0, 65535))
  | .i2l, 1 => fx_un pc g (fun i => .inr (.inl i))
  | .lshl, 1 => fx_ll pc g 1 0
  | .lor, 1 => fx_ll pc g 1 1
  | .lcmp, 1 => fx_lc pc g
  | .dup, 1 => match g.2.2.1 with
    | a :: S => if fx_lg g.1 a = false then some [(pc + 1, (g.1, g.2.1, a :: a :: S, g.2.2.2))] else none
    | _ => none
  | .pop, 1 => match g.2.2.1 with
    | a :: S => if fx_lg g.1 a = false then some [(pc + 1, (g.1, g.2.1, S, g.2.2.2))] else none
    | _ => none
  | .dup2, 1 => match g.2.2.1 with
    | b :: a :: S => if fx_lg g.1 a = false ∧ fx_lg g.1 b = false then some [(pc + 1, (g.1, g.2.1, b :: a :: b :: a :: S, g.2.2.2))] else none
    | _ => none
  | _, _ => none
section FX4
variable {Y : fx_Y} {ad : List Nat} {nL : Nat} {D : va_G} {cl : List vw_C} {A : Nat → Prop} {H0 : Heap} {md : List (Nat × Nat)} {w0 : va_W} {p : Program} {l : Launch} {e : Env} {R : Room} {s : State} {m : MethodId} {args : Array Value} {below : List Frame} {meth : Method} {c : Code} {Q : State → Prop} {cc : ByteArray} {pc : Nat} {r0 w : List Value} {ws : va_W} {H : Heap} {ls : Array Slot} {st : List Value} {locs : List Loc} {tys : List (ClassId × FieldType)}
theorem fx_g2 {G : List fx_T} {L : fx_L} {S : List fx_V} {F : List fx_F} {a b : fx_V} {r : List Value} (hg : fx_g Y ad nL (G, L, b :: a :: S, F) r ws ls st) : ∃ u v st', st = v :: u :: st' ∧ fx_v r a = some u ∧ fx_v r b = some v ∧ fx_g Y ad nL (G, L, S, F) r ws ls st' := by
  obtain ⟨v, st1, rfl, h1, h2⟩ := fx_st_cons hg.2.2.1
  obtain ⟨u, st', rfl, h3, h4⟩ := fx_st_cons h2
  exact ⟨u, v, st', rfl, h3, h1, hg.1, hg.2.1, h4, hg.2.2.2⟩
theorem fx_g1 {G : List fx_T} {L : fx_L} {S : List fx_V} {F : List fx_F} {a : fx_V} {r : List Value} (hg : fx_g Y ad nL (G, L, a :: S, F) r ws ls st) : ∃ u st', st = u :: st' ∧ fx_v r a = some u ∧ fx_g Y ad nL (G, L, S, F) r ws ls st' := by
  obtain ⟨v, st1, rfl, h1, h2⟩ := fx_st_cons hg.2.2.1
  exact ⟨v, st1, rfl, h1, hg.1, hg.2.1, h2, hg.2.2.2⟩
theorem fx_bn_ok {o : Instr} {f : Int32 → Int32 → Int32} (hf : ∀ {i j k : Int × Int} {x y : Int32}, fx_bin o i j = some k → fx_is i x → fx_is j y → fx_is k (f x y)) {g : fx_S} {l' : List (Nat × fx_S)} (hs : fx_bn o pc g = some l') (hk : ∀ q ∈ l', fx_W Y ad nL D cl A H0 md w0 p l e R s m args below meth c Q r0 q.1 q.2) (hg : fx_g Y ad nL g (r0 ++ w) ws ls st) (hh : fx_hp Y ad D cl A H0 md w0 ws H locs) :
    ∃ (x y : Int32) (st' : List Value) (i j k : Int × Int), st = .int y :: .int x :: st' ∧ fx_bin o i j = some k ∧ fx_is i x ∧ fx_is j y ∧ W p l e R s m args below meth c H locs 0 0 Q (F0 m (pc + 1) ls (.int (f x y) :: st')) := by
  obtain ⟨G, L, S, F⟩ := g
  simp only [fx_bn] at hs
  split at hs
  · rename_i b a S
    obtain ⟨u, v, st', rfl, h1, h2, h3⟩ := fx_g2 hg
    split at hs
    · rename_i i j hi hj
      split at hs
      · rename_i k hb
        cases hs
        obtain ⟨x, rfl, hx⟩ := fx_iv_ok hg.1 hi h1
        obtain ⟨y, rfl, hy⟩ := fx_iv_ok hg.1 hj h2
        exact ⟨x, y, st', i, j, k, rfl, hb, hx, hy, fx_kp (hk _ List.mem_cons_self) h3 hh ⟨_, rfl, hf hb hx hy⟩⟩
      · cases hs
    · cases hs
  · cases hs
theorem fx_off {G : List fx_T} {r : List Value} {a : fx_V} {x : Int32} {i : Int × Int} (hg : fx_ty Y ad G r) (hi : fx_iv G a = some i) (h : fx_v r a = some (.int x)) (d : Int) : fx_v r (a.1, a.2 + d) = some (.int (x + Int32.ofInt d)) := by
  unfold fx_v at h ⊢
  simp only []
  split at h
  · rename_i y hy
    simp only [Option.some.injEq, Value.int.injEq] at h ⊢
    rw [← h, fx_addO]
  · rename_i o ho
    unfold fx_iv at hi
    split at hi
    · rename_i j hj
      obtain ⟨u, g1, z, rfl, -⟩ := hg.2 _ _ hj
      exact absurd g1 (ho z)
    · cases hi
theorem fx_cst {j : Int × Int} {y : Int32} (h : j.1 = j.2) (hy : fx_is j y) : Int32.ofInt j.1 = y := by
  have e : y.toInt = j.1 := by have := hy.1; have := hy.2; omega
  rw [← e, Int32.ofInt_toInt]
theorem fx_ad_ok (hexec : p.tables.exec = Jvm.exec) (hb : c.code = cc) (hdg : decode cc pc = .ok (.iadd, 1)) {g : fx_S} {l' : List (Nat × fx_S)} (hs : fx_ad pc g = some l') (hk : ∀ q ∈ l', fx_W Y ad nL D cl A H0 md w0 p l e R s m args below meth c Q r0 q.1 q.2) (hg : fx_g Y ad nL g (r0 ++ w) ws ls st) (hh : fx_hp Y ad D cl A H0 md w0 ws H locs) : W p l e R s m args below meth c H locs 0 0 Q (F0 m pc ls st) := by
  obtain ⟨G, L, S, F⟩ := g
  simp only [fx_ad] at hs
  split at hs
  · rename_i b a S
    obtain ⟨u, v, st', rfl, h1, h2, h3⟩ := fx_g2 hg
    split at hs
    · rename_i i j hi hj
      obtain ⟨x, rfl, hx⟩ := fx_iv_ok hg.1 hi h1
      obtain ⟨y, rfl, hy⟩ := fx_iv_ok hg.1 hj h2
      split at hs
      · rename_i hc
        cases hs
        refine lv_iadd hexec hb hdg (hk _ List.mem_cons_self w ws H ls _ locs ⟨h3.1, h3.2.1, fx_st_push ?_ h3.2.2.1, h3.2.2.2⟩ hh)
        rw [← fx_cst hc hy]
        exact fx_off hg.1 hi h1 _
      · split at hs
        · rename_i hc
          cases hs
          refine lv_iadd hexec hb hdg (hk _ List.mem_cons_self w ws H ls _ locs ⟨h3.1, h3.2.1, fx_st_push ?_ h3.2.2.1, h3.2.2.2⟩ hh)
          rw [← fx_cst hc hx, Int32.add_comm]
          exact fx_off hg.1 hj h2 _
        · obtain ⟨x', y', st2, i, j, k, e, -, -, -, hw⟩ := fx_bn_ok (f := fun x y => x + y) fx_iadd hs hk hg hh
          cases e
          exact lv_iadd hexec hb hdg hw
    · cases hs
  · cases hs
theorem fx_ofneg (d : Int) : Int32.ofInt (-d) = -Int32.ofInt d := by rw [Int32.ofInt_neg]
theorem fx_sb_ok (hexec : p.tables.exec = Jvm.exec) (hb : c.code = cc) (hdg : decode cc pc = .ok (.isub, 1)) {g : fx_S} {l' : List (Nat × fx_S)} (hs : fx_sb pc g = some l') (hk : ∀ q ∈ l', fx_W Y ad nL D cl A H0 md w0 p l e R s m args below meth c Q r0 q.1 q.2) (hg : fx_g Y ad nL g (r0 ++ w) ws ls st) (hh : fx_hp Y ad D cl A H0 md w0 ws H locs) : W p l e R s m args below meth c H locs 0 0 Q (F0 m pc ls st) := by
  obtain ⟨G, L, S, F⟩ := g
  simp only [fx_sb] at hs
  split at hs
  · rename_i b a S
    obtain ⟨u, v, st', rfl, h1, h2, h3⟩ := fx_g2 hg
    split at hs
    · rename_i i j hi hj
      obtain ⟨x, rfl, hx⟩ := fx_iv_ok hg.1 hi h1
      obtain ⟨y, rfl, hy⟩ := fx_iv_ok hg.1 hj h2
      split at hs
      · rename_i hc
        cases hs
        refine lv_isub hexec hb hdg (hk _ List.mem_cons_self w ws H ls _ locs ⟨h3.1, h3.2.1, fx_st_push ?_ h3.2.2.1, h3.2.2.2⟩ hh)
        rw [← fx_cst hc hy, Int32.sub_eq_add_neg, ← fx_ofneg]
        exact fx_off hg.1 hi h1 _
      · obtain ⟨x', y', st2, i, j, k, e, -, -, -, hw⟩ := fx_bn_ok (f := fun x y => x - y) fx_isub hs hk hg hh
        cases e
        exact lv_isub hexec hb hdg hw
    · cases hs
  · cases hs
theorem fx_un_ok {g : fx_S} {fT : Int × Int → fx_T} {l' : List (Nat × fx_S)} (hs : fx_un pc g fT = some l') (hk : ∀ q ∈ l', fx_W Y ad nL D cl A H0 md w0 p l e R s m args below meth c Q r0 q.1 q.2) (hg : fx_g Y ad nL g (r0 ++ w) ws ls st) (hh : fx_hp Y ad D cl A H0 md w0 ws H locs) : ∃ (x : Int32) (st' : List Value) (i : Int × Int), st = .int x :: st' ∧ fx_is i x ∧ ∀ v : Value, fx_ok Y.1 ad (fT i) v → W p l e R s m args below meth c H locs 0 0 Q (F0 m (pc + 1) ls (v :: st')) := by
  obtain ⟨G, L, S, F⟩ := g
  simp only [fx_un] at hs
  split at hs
  · rename_i a S
    obtain ⟨u, st', rfl, h1, h3⟩ := fx_g1 hg
    split at hs
    · rename_i i hi
      cases hs
      obtain ⟨x, rfl, hx⟩ := fx_iv_ok hg.1 hi h1
      exact ⟨x, st', i, rfl, hx, fun v hv => fx_kp (hk _ List.mem_cons_self) h3 hh hv⟩
    · cases hs
  · cases hs
theorem fx_rl_ok {G : List fx_T} {r : List Value} {a : fx_V} {i j : Int × Int} {x : Int64} (h : fx_ty Y ad G r) (hG : G[a.1]? = some (.inr (.inl j))) (hv : r[a.1]? = some (.long x)) (h1 : i.1 ≤ x.toInt) (h2 : x.toInt ≤ i.2) : ∃ G', fx_rl G a i = some G' ∧ fx_ty Y ad G' r := by
  unfold fx_rl
  rw [hG]
  simp only []
  obtain ⟨u, g1, z, rfl, g2, g3⟩ := h.2 _ _ hG
  rw [g1] at hv
  cases hv
  rw [if_pos (by omega)]
  exact ⟨_, rfl, fx_ty_set h g1 ⟨_, rfl, by simp only []; omega, by simp only []; omega⟩⟩
theorem fx_lc_ok (hexec : p.tables.exec = Jvm.exec) (hb : c.code = cc) (hdg : decode cc pc = .ok (.lcmp, 1)) {g : fx_S} {l' : List (Nat × fx_S)} (hs : fx_lc pc g = some l') (hk : ∀ q ∈ l', fx_W Y ad nL D cl A H0 md w0 p l e R s m args below meth c Q r0 q.1 q.2) (hg : fx_g Y ad nL g (r0 ++ w) ws ls st) (hh : fx_hp Y ad D cl A H0 md w0 ws H locs) : W p l e R s m args below meth c H locs 0 0 Q (F0 m pc ls st) := by
  obtain ⟨G, L, S, F⟩ := g
  simp only [fx_lc] at hs
  split at hs
  · rename_i b a S
    obtain ⟨u, v, st', rfl, h1, h2, h3⟩ := fx_g2 hg
    split at hs
    · rename_i i j hi hj
      cases hs
      obtain ⟨g1, x, rfl, x1, x2⟩ := fx_kl hg.1 h1 hi
      obtain ⟨g2, y, rfl, y1, y2⟩ := fx_kl hg.1 h2 hj
      have r1 := fx_r64 x
      refine W.lcmp hexec hb hdg ?_
      by_cases c1 : x > y
      · have e1 : lg_cmp x y = 1 := by unfold lg_cmp; rw [if_pos c1]
        have c2 : y.toInt < x.toInt := Int64.lt_iff_toInt_lt.mp c1
        obtain ⟨G', e2, t2⟩ := fx_rl_ok (i := (j.1 + 1, fx_l64.2)) hg.1 hi g1 (by simp only []; omega) (by simp only []; omega)
        rw [e1]
        exact fx_kp (hk (pc + 1, fx_pu (G', L, S, F) (.inl (1, 1))) (by simp [e2])) ⟨t2, h3.2⟩ hh ⟨1, rfl, by decide +kernel⟩
      · by_cases c2 : x = y
        · subst c2
          have e1 : lg_cmp x x = 0 := by unfold lg_cmp; rw [if_neg c1, if_pos rfl]
          obtain ⟨G', e2, t2⟩ := fx_rl_ok (i := (j.1, j.2)) hg.1 hi g1 y1 y2
          rw [e1]
          exact fx_kp (hk (pc + 1, fx_pu (G', L, S, F) (.inl (0, 0))) (by simp [e2])) ⟨t2, h3.2⟩ hh ⟨0, rfl, by decide +kernel⟩
        · have e1 : lg_cmp x y = -1 := by unfold lg_cmp; rw [if_neg c1, if_neg c2]
          have c3 : x.toInt < y.toInt := by
            have n1 : ¬ y.toInt < x.toInt := fun q => c1 (Int64.lt_iff_toInt_lt.mpr q)
            have n2 : x.toInt ≠ y.toInt := fun q => c2 (Int64.toInt_inj.mp q)
            omega
          obtain ⟨G', e2, t2⟩ := fx_rl_ok (i := (fx_l64.1, j.2 - 1)) hg.1 hi g1 (by simp only []; omega) (by simp only []; omega)
          rw [e1]
          exact fx_kp (hk (pc + 1, fx_pu (G', L, S, F) (.inl (-1, -1))) (by simp [e2])) ⟨t2, h3.2⟩ hh ⟨-1, rfl, by decide +kernel⟩
    · cases hs
  · cases hs
theorem fx_ll_ok {g : fx_S} {k1 k2 : Nat} {l' : List (Nat × fx_S)} (hs : fx_ll pc g k1 k2 = some l') (hk : ∀ q ∈ l', fx_W Y ad nL D cl A H0 md w0 p l e R s m args below meth c Q r0 q.1 q.2) (hg : fx_g Y ad nL g (r0 ++ w) ws ls st) (hh : fx_hp Y ad D cl A H0 md w0 ws H locs) : ∃ (G : List fx_T) (a b : fx_V) (u v : Value) (st' : List Value), st = v :: u :: st' ∧ fx_ty Y ad G (r0 ++ w) ∧ fx_v (r0 ++ w) a = some u ∧ fx_v (r0 ++ w) b = some v ∧ fx_kd G a = k1 ∧ fx_kd G b = k2 ∧ ∀ x : Int64, W p l e R s m args below meth c H locs 0 0 Q (F0 m (pc + 1) ls (.long x :: st')) := by
  obtain ⟨G, L, S, F⟩ := g
  simp only [fx_ll] at hs
  split at hs
  · rename_i b a S
    obtain ⟨u, v, st', rfl, h1, h2, h3⟩ := fx_g2 hg
    split at hs
    · rename_i hc
      cases hs
      exact ⟨G, a, b, u, v, st', rfl, hg.1, h1, h2, hc.1, hc.2, fun x => fx_kp (hk _ List.mem_cons_self) h3 hh ⟨x, rfl, fx_r64 x⟩⟩
    · cases hs
  · cases hs
theorem fx_s2_ok (hexec : p.tables.exec = Jvm.exec) (hb : c.code = cc) {o : Instr} {len : Nat} (hdg : decode cc pc = .ok (o, len)) {g : fx_S} {l' : List (Nat × fx_S)} (hs : fx_s2 pc o len g = some l') (hk : ∀ q ∈ l', fx_W Y ad nL D cl A H0 md w0 p l e R s m args below meth c Q r0 q.1 q.2) : fx_W Y ad nL D cl A H0 md w0 p l e R s m args below meth c Q r0 pc g := by
  intro w ws H ls st locs hg hh
  unfold fx_s2 at hs
  split at hs
  · exact fx_ad_ok hexec hb hdg hs hk hg hh
  · exact fx_sb_ok hexec hb hdg hs hk hg hh
  · obtain ⟨x, y, st', i, j, k, rfl, -, -, -, hw⟩ := fx_bn_ok (f := fun x y => x * y) fx_imul hs hk hg hh
    exact lv_imul hexec hb hdg hw
  · obtain ⟨x, y, st', i, j, k, rfl, -, -, -, hw⟩ := fx_bn_ok (f := fun x y => x &&& y) fx_iand hs hk hg hh
    exact lv_iand hexec hb hdg hw
  · obtain ⟨x, y, st', i, j, k, rfl, -, -, -, hw⟩ := fx_bn_ok (f := fun x y => x ||| y) fx_ior hs hk hg hh
    exact lv_ior hexec hb hdg hw
  · obtain ⟨x, y, st', i, j, k, rfl, -, -, -, hw⟩ := fx_bn_ok (f := fun x y => x ^^^ y) fx_ixor hs hk hg hh
    exact lv_ixor hexec hb hdg hw
  · obtain ⟨x, y, st', i, j, k, rfl, -, -, -, hw⟩ := fx_bn_ok (f := fun x y => x <<< (y &&& 31)) fx_ishl hs hk hg hh
    exact lv_ishl hexec hb hdg hw
  · obtain ⟨x, y, st', i, j, k, rfl, -, -, -, hw⟩ := fx_bn_ok (f := fun x y => x >>> (y &&& 31)) fx_ishr hs hk hg hh
    exact lv_ishr hexec hb hdg hw
  · obtain ⟨x, y, st', i, j, k, rfl, -, -, -, hw⟩ := fx_bn_ok (f := fun x y => (x.toUInt32 >>> (y.toUInt32 &&& Int32.toUInt32 31)).toInt32) (fun h _ _ => by simp only [fx_bin, Option.some.injEq] at h; subst h; exact fx_top_ok _) hs hk hg hh
    exact lv_iushr hexec hb hdg rfl hw
  · obtain ⟨x, y, st', i, j, k, rfl, hb1, hx, hy, hw⟩ := fx_bn_ok (f := fun x y => x / y) (fun h1 h2 h3 => (fx_idiv h1 h2 h3).1) hs hk hg hh
    exact lv_idiv hexec hb hdg (fx_idiv hb1 hx hy).2 hw
  · obtain ⟨x, y, st', i, j, k, rfl, hb1, hx, hy, hw⟩ := fx_bn_ok (f := fun x y => x - x / y * y) (fun h1 h2 h3 => (fx_irem h1 h2 h3).1) hs hk hg hh
    exact lv_irem hexec hb hdg (fx_irem hb1 hx hy).2 hw
  · obtain ⟨x, st', i, rfl, hx, hw⟩ := fx_un_ok hs hk hg hh
    exact lv_ineg hexec hb hdg (hw _ ⟨_, rfl, fx_nm_ok (Int32.toInt_neg x) (by have := hx.2; omega) (by have := hx.1; omega)⟩)
  · obtain ⟨x, st', i, rfl, hx, hw⟩ := fx_un_ok hs hk hg hh
    exact lv_i2b hexec hb hdg rfl (hw _ ⟨_, rfl, by have := lg_i2b_range x; simp only []; omega⟩)
  · obtain ⟨x, st', i, rfl, hx, hw⟩ := fx_un_ok hs hk hg hh
    exact lv_i2c hexec hb hdg rfl (hw _ ⟨_, rfl, by rw [lg_i2c_nf, lg_i2c_toInt]; simp only []; omega⟩)
  · obtain ⟨x, st', i, rfl, hx, hw⟩ := fx_un_ok hs hk hg hh
    exact lv_i2l hexec hb hdg rfl (hw _ ⟨_, rfl, by rw [Int32.toInt_toInt64]; exact hx⟩)
  · obtain ⟨G, a, b, u, v, st', rfl, ht, h1, h2, k1, k2, hw⟩ := fx_ll_ok hs hk hg hh
    obtain ⟨i, hi⟩ := fx_kd1 k1
    obtain ⟨j, hj⟩ := fx_kd0 k2
    obtain ⟨-, x, rfl, -⟩ := fx_kl ht h1 hi
    obtain ⟨y, rfl⟩ := fx_ki ht h2 hj
    exact lv_lshl hexec hb hdg rfl (hw _)
  · obtain ⟨G, a, b, u, v, st', rfl, ht, h1, h2, k1, k2, hw⟩ := fx_ll_ok hs hk hg hh
    obtain ⟨i, hi⟩ := fx_kd1 k1
    obtain ⟨j, hj⟩ := fx_kd1 k2
    obtain ⟨-, x, rfl, -⟩ := fx_kl ht h1 hi
    obtain ⟨-, y, rfl, -⟩ := fx_kl ht h2 hj
    exact lv_lor hexec hb hdg (hw _)
  · exact fx_lc_ok hexec hb hdg hs hk hg hh
  · obtain ⟨G, L, S, F⟩ := g
    simp only [] at hs
    split at hs
    · rename_i a S
      obtain ⟨u, st', rfl, h1, h3⟩ := fx_g1 hg
      split at hs
      · rename_i hc
        cases hs
        exact lv_dup hexec hb hdg (fx_cat1 hg.1 h1 hc) (hk _ List.mem_cons_self w ws H ls _ locs ⟨hg.1, hg.2.1, fx_st_push h1 (fx_st_push h1 h3.2.2.1), hg.2.2.2⟩ hh)
      · cases hs
    · cases hs
  · obtain ⟨G, L, S, F⟩ := g
    simp only [] at hs
    split at hs
    · rename_i a S
      obtain ⟨u, st', rfl, h1, h3⟩ := fx_g1 hg
      split at hs
      · rename_i hc
        cases hs
        exact lv_pop hexec hb hdg (fx_cat1 hg.1 h1 hc) (hk _ List.mem_cons_self w ws H ls _ locs h3 hh)
      · cases hs
    · cases hs
  · obtain ⟨G, L, S, F⟩ := g
    simp only [] at hs
    split at hs
    · rename_i b a S
      obtain ⟨u, v, st', rfl, h1, h2, h3⟩ := fx_g2 hg
      split at hs
      · rename_i hc
        cases hs
        exact lv_dup2_11 hexec hb hdg (fx_cat1 hg.1 h2 hc.2) (fx_cat1 hg.1 h1 hc.1) (hk _ List.mem_cons_self w ws H ls _ locs ⟨hg.1, hg.2.1, fx_st_push h2 (fx_st_push h1 (fx_st_push h2 (fx_st_push h1 h3.2.2.1))), hg.2.2.2⟩ hh)
      · cases hs
    · cases hs
  · cases hs
end FX4
