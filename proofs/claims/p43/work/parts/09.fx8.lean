-- arrays
def fx_tb (tys : List (ClassId × FieldType)) (cy : Nat → ClassId) : Prop := tys[0]? = some (cy 0, .int) ∧ tys[1]? = some (cy 1, .long) ∧ tys[2]? = some (cy 2, .byte) ∧ tys[3]? = some (cy 3, .boolean) ∧ ∀ t0, 4 ≤ t0 → t0 < 6 → ∃ C, tys[t0]? = some (cy t0, .object C)
def fx_oc (cl : List vw_C) (tys : List (ClassId × FieldType)) (cy : Nat → ClassId) (q : Nat × Nat) : Prop := ∃ r, cl[q.2]? = some r ∧ tys[q.1]? = some (cy q.1, .object r.1)
def fx_pats (pat : List fx_T) (lo hi : Nat) : List fx_T := if pat.length = 1 then pat else (List.range (hi + 1 - lo)).filterMap (fun d => pat[(lo + d) % pat.length]?)
theorem fx_pats_mem {pat : List fx_T} {lo hi j : Nat} {t : fx_T} (h1 : lo ≤ j) (h2 : j ≤ hi) (ht : pat[j % pat.length]? = some t) : t ∈ fx_pats pat lo hi := by
  unfold fx_pats
  split
  · exact List.mem_of_getElem? ht
  · refine List.mem_filterMap.mpr ⟨j - lo, List.mem_range.mpr (by omega), ?_⟩
    rw [show lo + (j - lo) = j by omega]
    exact ht
theorem fx_pat_some {pat : List fx_T} (h : pat ≠ []) (j : Nat) : ∃ t, pat[j % pat.length]? = some t := by
  have hl : 0 < pat.length := List.length_pos_iff.mpr h
  exact ⟨_, List.getElem?_eq_getElem (Nat.mod_lt j hl)⟩
def fx_hj (a b : fx_T) : Option fx_T := match a, b with
  | .inl i, .inl j => some (.inl (min i.1 j.1, max i.2 j.2))
  | a, b => if a = b then some a else none
theorem fx_hj_ok {gs ad : List Nat} {v : Value} {a b t : fx_T} (h : fx_hj a b = some t) : (fx_ok gs ad a v → fx_ok gs ad t v) ∧ (fx_ok gs ad b v → fx_ok gs ad t v) := by
  unfold fx_hj at h
  split at h
  · cases h
    refine ⟨fun hv => ?_, fun hv => ?_⟩
    · obtain ⟨x, rfl, h1, h2⟩ := hv
      exact ⟨x, rfl, by simp only []; omega, by simp only []; omega⟩
    · obtain ⟨x, rfl, h1, h2⟩ := hv
      exact ⟨x, rfl, by simp only []; omega, by simp only []; omega⟩
  · split at h
    · rename_i he
      cases h
      subst he
      exact ⟨id, id⟩
    · cases h
def fx_hl : List fx_T → Option fx_T
  | [] => none
  | [t] => some t
  | t :: u :: l => (fx_hl (u :: l)).bind (fx_hj t)
theorem fx_hl_ok {gs ad : List Nat} {v : Value} : ∀ {l : List fx_T} {t' t : fx_T}, fx_hl l = some t' → t ∈ l → fx_ok gs ad t v → fx_ok gs ad t' v
  | [], _, _, h, _, _ => by simp [fx_hl] at h
  | [u], t', t, h, hm, hv => by
    simp only [fx_hl, Option.some.injEq] at h
    subst h
    simp only [List.mem_singleton] at hm
    subst hm
    exact hv
  | u :: w :: l, t', t, h, hm, hv => by
    simp only [fx_hl] at h
    obtain ⟨t2, h1, h2⟩ := Option.bind_eq_some_iff.mp h
    rcases List.mem_cons.mp hm with rfl | hm
    · exact (fx_hj_ok h2).1 hv
    · exact (fx_hj_ok h2).2 (fx_hl_ok h1 hm hv)
def fx_al (T : List fx_G) (ks : List Nat) (pc : Nat) (g : fx_S) : Option (List (Nat × fx_S)) := match g.2.2.1 with
  | b :: a :: S => match fx_iv g.1 b, fx_ar T g.1 a with
    | some i, some u => if 0 ≤ i.1 ∧ i.2 < u.2.2.1 ∧ ks.contains u.2.1 = true ∧ u.2.2.2.isEmpty = false then (match fx_hl (fx_pats u.2.2.2 i.1.toNat i.2.toNat) with
      | some t => if i.1 = i.2 then (match g.2.2.2.find? (fun f => f.1 == a.1 && f.2.1 == i.1.toNat) with
          | some f => some [(pc + 1, (g.1, g.2.1, f.2.2 :: S, g.2.2.2))]
          | none => some [(pc + 1, (g.1 ++ [t], g.2.1, (g.1.length, 0) :: S, (a.1, i.1.toNat, (g.1.length, 0)) :: g.2.2.2))])
        else some [(pc + 1, fx_pu (g.1, g.2.1, S, g.2.2.2) t)]
      | none => none) else none
    | _, _ => none
  | _ => none
theorem fx_cln (x : Int32) : x.toNatClampNeg = x.toInt.toNat := rfl
section FX8
variable {Y : fx_Y} {ad : List Nat} {nL : Nat} {D : va_G} {cl : List vw_C} {A : Nat → Prop} {H0 : Heap} {md : List (Nat × Nat)} {w0 : va_W} {p : Program} {l : Launch} {e : Env} {R : Room} {s : State} {m : MethodId} {args : Array Value} {below : List Frame} {meth : Method} {c : Code} {Q : State → Prop} {cc : ByteArray} {pc : Nat} {r0 w : List Value} {ws : va_W} {H : Heap} {ls : Array Slot} {st : List Value} {locs : List Loc} {tys : List (ClassId × FieldType)}
theorem fx_al_ok {ks : List Nat} {g : fx_S} {l' : List (Nat × fx_S)} (hs : fx_al Y.2.1 ks pc g = some l') (hk : ∀ q ∈ l', fx_W Y ad nL D cl A H0 md w0 p l e R s m args below meth c Q r0 q.1 q.2) (hg : fx_g Y ad nL g (r0 ++ w) ws ls st) (hh : fx_hp Y ad D cl A H0 md w0 ws H locs) : ∃ (x : Int32) (b k t0 n : Nat) (z : fx_A) (st' : List Value), st = .int x :: .ref b :: st' ∧ ws[k]? = some (b, .inl (Y.2.2.1 t0, n, z)) ∧ fx_sh t0 z ∧ t0 ∈ ks ∧ vp_in x n ∧ W p l e R s m args below meth c H locs 0 0 Q (F0 m (pc + 1) ls (fx_el z x.toNatClampNeg :: st')) := by
  obtain ⟨G, L, S, F⟩ := g
  simp only [fx_al] at hs
  split at hs
  · rename_i b a S
    obtain ⟨v0, v, st', rfl, h1, h2, h3⟩ := fx_g2 hg
    split at hs
    · rename_i i u hi hu
      obtain ⟨x, rfl, hx1, hx2⟩ := fx_iv_ok hg.1 hi h2
      obtain ⟨k, bb, z, rfl, z2, z3, z4, z5, z6, z7⟩ := fx_ar_ok hg.1 h1 hu hh.1
      split at hs
      · rename_i hc
        obtain ⟨c1, c2, c3, c4⟩ := hc
        have hin : vp_in x u.2.2.1 := vp_in_iff.mpr ⟨by omega, by omega⟩
        have hlt : x.toInt.toNat < u.2.2.1 := by omega
        refine ⟨x, bb, k, u.2.1, u.2.2.1, z, st', rfl, z3, z6, by simpa using c3, hin, ?_⟩
        have hne : u.2.2.2 ≠ [] := by intro e; rw [e] at c4; cases c4
        obtain ⟨tt, ht⟩ := fx_pat_some hne x.toInt.toNat
        split at hs
        · rename_i t hhl
          have hv : fx_ok Y.1 ad t (fx_el z x.toInt.toNat) := fx_hl_ok hhl (fx_pats_mem (by omega) (by omega) ht) (z7 _ _ hlt ht)
          split at hs
          · rename_i hcst
            have hxi : x.toInt.toNat = i.1.toNat := by omega
            split at hs
            · rename_i f hf
              cases hs
              have hfm := List.mem_of_find?_eq_some hf
              have hfe := List.find?_some hf
              simp at hfe
              obtain ⟨b', k', e', v, y1, y2, y3, y4⟩ := hg.2.2.2 f hfm
              rw [hfe.1, z2] at y1
              cases y1
              have ek := hh.2.2.1.1 _ _ _ _ y2 z3 rfl
              subst ek
              rw [z3] at y2
              cases y2
              rw [hfe.2, ← hxi] at y3
              simp only [fx_at, if_pos hlt, Option.some.injEq] at y3
              rw [fx_cln, y3]
              exact hk _ List.mem_cons_self w ws H ls _ locs ⟨hg.1, hg.2.1, fx_st_push y4 h3.2.2.1, hg.2.2.2⟩ hh
            · cases hs
              refine hk _ List.mem_cons_self (w ++ [fx_el z x.toInt.toNat]) ws H ls _ locs ?_ hh
              rw [← List.append_assoc]
              have hp := fx_push h3 hv
              refine ⟨hp.1, hp.2.1, hp.2.2.1, fun f hf => ?_⟩
              rcases List.mem_cons.mp hf with rfl | hf
              · refine ⟨bb, k, _, fx_el z x.toInt.toNat, fx_get_mono _ z2, z3, ?_, fx_v_new hg.1⟩
                rw [← hxi]
                simp only [fx_at, if_pos hlt]
              · exact hp.2.2.2 f hf
          · cases hs
            exact fx_kp (hk _ List.mem_cons_self) h3 hh hv
        · cases hs
      · cases hs
    · cases hs
  · cases hs
end FX8
/-- a store: the value's symbol, if it stays what it is -/
def fx_as (T : List fx_G) (md : List (Nat × Nat)) (ks : List Nat) (ck : Nat → fx_V → List fx_T → Bool) (pc : Nat) (ex : Bool) (g : fx_S) : Option (List (Nat × fx_S)) := match g.2.2.1 with
  | v :: b :: a :: S => match fx_iv g.1 b, fx_ar T g.1 a with
    | some i, some u => if 0 ≤ i.1 ∧ i.2 < u.2.2.1 ∧ ks.contains u.2.1 = true ∧ md.contains (1000, u.1) = true ∧ ck u.2.1 v (fx_pats u.2.2.2 i.1.toNat i.2.toNat) = true then
        some [(pc + 1, (g.1, g.2.1, S, (if i.1 = i.2 ∧ ex = true then [(a.1, i.1.toNat, v)] else []) ++ fx_kf g.1 u.1 i.1.toNat i.2.toNat g.2.2.2))] else none
    | _, _ => none
  | _ => none
section FX9
variable {Y : fx_Y} {ad : List Nat} {nL : Nat} {D : va_G} {cl : List vw_C} {A : Nat → Prop} {H0 : Heap} {md : List (Nat × Nat)} {w0 : va_W} {p : Program} {l : Launch} {e : Env} {R : Room} {s : State} {m : MethodId} {args : Array Value} {below : List Frame} {meth : Method} {c : Code} {Q : State → Prop} {cc : ByteArray} {pc : Nat} {r0 w : List Value} {ws : va_W} {H : Heap} {ls : Array Slot} {st : List Value} {locs : List Loc} {tys : List (ClassId × FieldType)}
theorem fx_as_ok (hfA : ∀ g, (1000, g) ∈ md → fx_fr Y [(1000, g)]) {ks : List Nat} {ck : Nat → fx_V → List fx_T → Bool} {ex : Bool} {g : fx_S} {l' : List (Nat × fx_S)} (hs : fx_as Y.2.1 md ks ck pc ex g = some l') (hk : ∀ q ∈ l', fx_W Y ad nL D cl A H0 md w0 p l e R s m args below meth c Q r0 q.1 q.2) (hg : fx_g Y ad nL g (r0 ++ w) ws ls st) (hh : fx_hp Y ad D cl A H0 md w0 ws H locs) :
    ∃ (x : Int32) (v : Value) (b k t0 n : Nat) (z : fx_A) (st' : List Value) (va : fx_V) (ps : List fx_T), st = v :: .int x :: .ref b :: st' ∧ fx_v (r0 ++ w) va = some v ∧ ck t0 va ps = true ∧ ws[k]? = some (b, .inl (Y.2.2.1 t0, n, z)) ∧ fx_sh t0 z ∧ t0 ∈ ks ∧ vp_in x n ∧
      ∀ (z' : fx_A) (v' : Value), fx_sh t0 z' → (∀ j, fx_el z' j = if j = x.toNatClampNeg then v' else fx_el z j) → (∀ t ∈ ps, fx_ok Y.1 ad t v') → (ex = true → v' = v) →
      ∀ (H1 : Heap) (locs1 : List Loc), va_P D cl (ws.set k (b, .inl (Y.2.2.1 t0, n, z'))) H1 → va_D A (ws.set k (b, .inl (Y.2.2.1 t0, n, z'))) → va_S A H0 H1 locs1 → W p l e R s m args below meth c H1 locs1 0 0 Q (F0 m (pc + 1) ls st') := by
  obtain ⟨G, L, S, F⟩ := g
  simp only [fx_as] at hs
  split at hs
  · rename_i va b a S
    obtain ⟨v, st1, rfl, hva, hgg⟩ := fx_g1 hg
    obtain ⟨v0, u0, st', rfl, h1, h2, h3⟩ := fx_g2 hgg
    split at hs
    · rename_i i u hi hu
      obtain ⟨x, rfl, hx1, hx2⟩ := fx_iv_ok hg.1 hi h2
      obtain ⟨k, bb, z, rfl, z2, z3, z4, z5, z6, z7⟩ := fx_ar_ok hg.1 h1 hu hh.1
      split at hs
      · rename_i hc
        cases hs
        obtain ⟨c1, c2, c3, c4, c5⟩ := hc
        simp only [List.contains_iff_mem] at c4
        have hin : vp_in x u.2.2.1 := vp_in_iff.mpr ⟨by omega, by omega⟩
        have hlt : x.toInt.toNat < u.2.2.1 := by omega
        refine ⟨x, v, bb, k, u.2.1, u.2.2.1, z, st', va, _, rfl, hva, c5, z3, z6, by simpa using c3, hin, ?_⟩
        intro z' v' hsh hel hps hex H1 locs1 hP1 hD1 hS1
        rw [fx_cln] at hel
        refine hk _ List.mem_cons_self w _ H1 ls st' locs1 ⟨hg.1, hg.2.1, h3.2.2.1, fun f hf => ?_⟩ ⟨?_, hP1, hD1, hS1, ⟨fx_sm_arr hh.2.2.2.2.1 z3 z4 c4, hfA _ c4 _ _ (fx_sm_arr fx_sm_refl z3 z4 (List.mem_singleton.mpr rfl)) hh.2.2.2.2.2⟩⟩
        · rcases List.mem_append.mp hf with hf | hf
          · split at hf
            · rename_i hcst
              simp only [List.mem_singleton] at hf
              subst hf
              have hv' := hex hcst.2
              subst hv'
              refine ⟨bb, k, _, v', z2, by rw [List.getElem?_set_self (List.getElem?_eq_some_iff.mp z3).1], ?_, hva⟩
              have hxi : i.1.toNat = x.toInt.toNat := by omega
              simp only [fx_at]
              rw [hxi, if_pos hlt, hel, if_pos rfl]
            · simp at hf
          · refine fx_kf_ok hg.1 hh.1 hh.2.2.1 hg.2.2.2 z3 z4 ?_ f hf
            intro j vj hj hat
            simp only [fx_at] at hat ⊢
            have e : fx_el z' j = fx_el z j := by rw [hel j, if_neg (by omega)]
            rw [e]
            exact hat
        · refine fx_wo_set hh.1 z3 z4 z5 ⟨rfl, rfl, hsh, fun j t hj ht => ?_⟩
          rw [hel]
          split
          · rename_i e
            exact hps t (fx_pats_mem (by omega) (by omega) ht)
          · exact z7 j t hj ht
      · cases hs
    · cases hs
  · cases hs
end FX9
def fx_ckv (kd : Nat) (G : List fx_T) (_ : Nat) (v : fx_V) (ps : List fx_T) : Bool := fx_kd G v == kd && ps.all fun t => fx_sbt G v t
def fx_ckb (G : List fx_T) (t0 : Nat) (v : fx_V) (ps : List fx_T) : Bool := fx_kd G v == 0 && ps.all fun t => match t with
  | .inl i => if t0 = 2 then decide (i.1 ≤ -128) && decide (127 ≤ i.2) else decide (i.1 ≤ 0) && decide (1 ≤ i.2)
  | _ => false
/-- of references: the class of what is stored is the one that the array is of -/
def fx_cka (T : List fx_G) (oc : List (Nat × Nat)) (G : List fx_T) (t0 : Nat) (v : fx_V) (ps : List fx_T) : Bool := match fx_ob T G v with
  | some u => oc.contains (t0, u.2.1) && ps.all fun t => fx_sbt G v t
  | none => false
def fx_s4 (T : List fx_G) (md oc : List (Nat × Nat)) (fl : List (Nat × Nat × Nat)) (pl : List (Nat × Nat × Nat × Nat)) (kt k2 : List (Nat × Int)) (pc : Nat) (o : Instr) (len : Nat) (g : fx_S) : Option (List (Nat × fx_S)) := match o, len with
  | .getfield i, 3 => fx_gf T fl pc i g
  | .putfield i, 3 => fx_pf T md pl pc i g
  | .iaload, 1 => fx_al T [0] pc g
  | .laload, 1 => fx_al T [1] pc g
  | .baload, 1 => fx_al T [2, 3] pc g
  | .aaload, 1 => fx_al T [4, 5] pc g
  | .iastore, 1 => fx_as T md [0] (fx_ckv 0 g.1) pc true g
  | .lastore, 1 => fx_as T md [1] (fx_ckv 1 g.1) pc true g
  | .bastore, 1 => fx_as T md [2, 3] (fx_ckb g.1) pc false g
  | .aastore, 1 => fx_as T md [4, 5] (fx_cka T oc g.1) pc true g
  | .arraylength, 1 => match g.2.2.1 with
    | a :: S => match fx_ar T g.1 a with
      | some u => if u.2.2.1 < 2147483648 ∧ u.2.1 < 6 then some [(pc + 1, fx_pu (g.1, g.2.1, S, g.2.2.2) (.inl ((u.2.2.1 : Int), (u.2.2.1 : Int))))] else none
      | none => none
    | _ => none
  | .ldc i, 2 => match kt.find? (fun q => q.1 == i) with
    | some q => if fx_lo32 ≤ q.2 ∧ q.2 ≤ fx_hi32 then some [(pc + 2, fx_pu g (.inl (q.2, q.2)))] else none
    | none => none
  | .ldc_w i, 3 => match kt.find? (fun q => q.1 == i) with
    | some q => if fx_lo32 ≤ q.2 ∧ q.2 ≤ fx_hi32 then some [(pc + 3, fx_pu g (.inl (q.2, q.2)))] else none
    | none => none
  | .ldc2_w i, 3 => match k2.find? (fun q => q.1 == i) with
    | some q => some [(pc + 3, fx_pu g (.inr (.inl (q.2, q.2))))]
    | none => none
  | _, _ => none
theorem fx_el_upd {f : Nat → Int32} {k : Nat} {x : Int32} (j : Nat) : fx_el (.inl (upd f k x)) j = if j = k then .int x else fx_el (.inl f) j := by
  simp only [fx_el, upd]
  split <;> rfl
theorem fx_el_updL {f : Nat → Int64} {k : Nat} {x : Int64} (j : Nat) : fx_el (.inr (.inl (vp_updL f k x))) j = if j = k then .long x else fx_el (.inr (.inl f)) j := by
  simp only [fx_el, vp_updL]
  split <;> rfl
theorem fx_el_up {f : Nat → Option Nat} {k : Nat} {x : Nat} (j : Nat) : fx_el (.inr (.inr (.inr (.inr (va_up f k (some x)))))) j = if j = k then .ref x else fx_el (.inr (.inr (.inr (.inr f)))) j := by
  simp only [fx_el, va_up]
  split <;> rfl
theorem fx_nar_b (x : Int32) : vp_nar .byte x = x.toInt8.toInt32 := rfl
theorem fx_nar_z (x : Int32) : vp_nar .boolean x = x &&& 1 := rfl
def fx_k4 (Ts : List Cond) (own : String) (q : Nat × Int) : Prop := Cond.constant own q.1 (Int32.ofInt q.2) ∈ Ts
def fx_k8 (Ts : List Cond) (own : String) (q : Nat × Int) : Prop := (Int64.ofInt q.2).toInt = q.2 ∧ Cond.constantLong own q.1 (Int64.ofInt q.2) ∈ Ts
section FX10
variable {Y : fx_Y} {ad : List Nat} {nL : Nat} {D : va_G} {cl : List vw_C} {A : Nat → Prop} {H0 : Heap} {md : List (Nat × Nat)} {w0 : va_W} {p : Program} {l : Launch} {e : Env} {R : Room} {s : State} {m : MethodId} {args : Array Value} {below : List Frame} {meth : Method} {c : Code} {Q : State → Prop} {cc : ByteArray} {pc : Nat} {r0 w : List Value} {ws : va_W} {H : Heap} {ls : Array Slot} {st : List Value} {locs : List Loc} {tys : List (ClassId × FieldType)}
theorem fx_s4_ok {Ts nest : List Cond} {own : String} (hexec : p.tables.exec = Jvm.exec) (hb : c.code = cc) (hts : ∀ w ∈ Ts, w.before args s = true) (hnest : ∀ w ∈ nest, va_Nw w s) (hown : s.vm.findClass own = some m.cls) (hK : va_K D cl tys s) (htb : fx_tb tys Y.2.2.1) {oc : List (Nat × Nat)} (hoc : ∀ q ∈ oc, fx_oc cl tys Y.2.2.1 q) {fl : List (Nat × Nat × Nat)} (hfl : ∀ q ∈ fl, fx_gl Ts nest cl own q) {pl : List (Nat × Nat × Nat × Nat)} (hpl : ∀ q ∈ pl, fx_pl Ts nest cl own q) (hfA : ∀ g, (1000, g) ∈ md → fx_fr Y [(1000, g)]) (hfF : ∀ q ∈ pl, fx_fr Y [(q.2.1, q.2.2.1)]) {kt k2 : List (Nat × Int)} (hkt : ∀ q ∈ kt, fx_k4 Ts own q) (hk2 : ∀ q ∈ k2, fx_k8 Ts own q)
    {o : Instr} {len : Nat} (hdg : decode cc pc = .ok (o, len)) {g : fx_S} {l' : List (Nat × fx_S)} (hs : fx_s4 Y.2.1 md oc fl pl kt k2 pc o len g = some l') (hk : ∀ q ∈ l', fx_W Y ad nL D cl A H0 md w0 p l e R s m args below meth c Q r0 q.1 q.2) : fx_W Y ad nL D cl A H0 md w0 p l e R s m args below meth c Q r0 pc g := by
  intro w ws H ls st locs hg hh
  have hP := hh.2.1
  have hD := hh.2.2.1
  have hS := hh.2.2.2.1
  unfold fx_s4 at hs
  split at hs
  · exact fx_gf_ok hexec hb hts hnest hown hK hfl hdg hs hk hg hh
  · exact fx_pf_ok hexec hb hts hnest hown hK hpl hfF hdg hs hk hg hh
  · obtain ⟨x, b, k, t0, n, z, st', rfl, h1, h2, h3, h4, h5⟩ := fx_al_ok hs hk hg hh
    simp at h3
    subst h3
    obtain ⟨f, rfl⟩ := h2
    exact va_iald hexec hb hK hP k 0 h1 htb.1 h4 hdg h5
  · obtain ⟨x, b, k, t0, n, z, st', rfl, h1, h2, h3, h4, h5⟩ := fx_al_ok hs hk hg hh
    simp at h3
    subst h3
    obtain ⟨f, rfl⟩ := h2
    exact va_lald hexec hb hK hP k 1 h1 htb.2.1 h4 hdg h5
  · obtain ⟨x, b, k, t0, n, z, st', rfl, h1, h2, h3, h4, h5⟩ := fx_al_ok hs hk hg hh
    simp at h3
    rcases h3 with rfl | rfl
    · obtain ⟨f, rfl⟩ := h2
      exact va_bald hexec hb hK hP k 2 h1 htb.2.2.1 h4 hdg h5
    · obtain ⟨f, rfl⟩ := h2
      exact va_zald hexec hb hK hP k 3 h1 htb.2.2.2.1 h4 hdg h5
  · obtain ⟨x, b, k, t0, n, z, st', rfl, h1, h2, h3, h4, h5⟩ := fx_al_ok hs hk hg hh
    simp at h3
    rcases h3 with rfl | rfl
    · obtain ⟨f, rfl⟩ := h2
      obtain ⟨C, hC⟩ := htb.2.2.2.2 4 (by omega) (by omega)
      exact va_aldq hexec hb hK hP k 4 h1 hC h4 hdg h5
    · obtain ⟨f, rfl⟩ := h2
      obtain ⟨C, hC⟩ := htb.2.2.2.2 5 (by omega) (by omega)
      exact va_aldq hexec hb hK hP k 5 h1 hC h4 hdg h5
  · obtain ⟨x, v, b, k, t0, n, z, st', va, ps, rfl, h0, hck, h1, h2, h3, h4, h5⟩ := fx_as_ok hfA hs hk hg hh
    simp at h3
    subst h3
    obtain ⟨f, rfl⟩ := h2
    simp only [fx_ckv, Bool.and_eq_true, beq_iff_eq] at hck
    have hps : ∀ t ∈ ps, fx_ok Y.1 ad t v := fun t ht => fx_sbt_ok hg.1 h0 (List.all_eq_true.mp hck.2 t ht)
    obtain ⟨i, hi⟩ := fx_kd0 hck.1
    obtain ⟨y, rfl⟩ := fx_ki hg.1 h0 hi
    exact va_iast hexec hb hK hP hD hS k 0 h1 htb.1 h4 hdg (h5 (.inl (upd f x.toNatClampNeg y)) _ ⟨_, rfl⟩ fx_el_upd hps (fun _ => rfl))
  · obtain ⟨x, v, b, k, t0, n, z, st', va, ps, rfl, h0, hck, h1, h2, h3, h4, h5⟩ := fx_as_ok hfA hs hk hg hh
    simp at h3
    subst h3
    obtain ⟨f, rfl⟩ := h2
    simp only [fx_ckv, Bool.and_eq_true, beq_iff_eq] at hck
    have hps : ∀ t ∈ ps, fx_ok Y.1 ad t v := fun t ht => fx_sbt_ok hg.1 h0 (List.all_eq_true.mp hck.2 t ht)
    obtain ⟨i, hi⟩ := fx_kd1 hck.1
    obtain ⟨-, y, rfl, -⟩ := fx_kl hg.1 h0 hi
    exact va_last hexec hb hK hP hD hS k 1 h1 htb.2.1 h4 hdg (h5 (.inr (.inl (vp_updL f x.toNatClampNeg y))) _ ⟨_, rfl⟩ fx_el_updL hps (fun _ => rfl))
  · obtain ⟨x, v, b, k, t0, n, z, st', va, ps, rfl, h0, hck, h1, h2, h3, h4, h5⟩ := fx_as_ok hfA hs hk hg hh
    simp only [fx_ckb, Bool.and_eq_true, beq_iff_eq] at hck
    obtain ⟨i, hi⟩ := fx_kd0 hck.1
    obtain ⟨y, rfl⟩ := fx_ki hg.1 h0 hi
    simp at h3
    rcases h3 with rfl | rfl
    · obtain ⟨f, rfl⟩ := h2
      refine va_bast hexec hb hK hP hD hS k 2 h1 htb.2.2.1 h4 hdg (h5 (.inl (upd f x.toNatClampNeg (vp_nar .byte y))) _ ⟨_, rfl⟩ fx_el_upd (fun t ht => ?_) (fun h => by cases h))
      have hc := List.all_eq_true.mp hck.2 t ht
      split at hc
      · rename_i j
        simp at hc
        have hr := lg_i2b_range y
        exact ⟨_, rfl, by rw [fx_nar_b]; omega, by rw [fx_nar_b]; omega⟩
      · cases hc
    · obtain ⟨f, rfl⟩ := h2
      refine va_zast hexec hb hK hP hD hS k 3 h1 htb.2.2.2.1 h4 hdg (h5 (.inl (upd f x.toNatClampNeg (vp_nar .boolean y))) _ ⟨_, rfl⟩ fx_el_upd (fun t ht => ?_) (fun h => by cases h))
      have hc := List.all_eq_true.mp hck.2 t ht
      split at hc
      · rename_i j
        simp at hc
        have e1 : (1 : Int32).toInt = 1 := by decide +kernel
        have hr := fx_and (x := y) (y := 1) (by rw [e1]; omega)
        rw [e1] at hr
        exact ⟨_, rfl, by rw [fx_nar_z]; omega, by rw [fx_nar_z]; omega⟩
      · cases hc
  · obtain ⟨x, v, b, k, t0, n, z, st', va, ps, rfl, h0, hck, h1, h2, h3, h4, h5⟩ := fx_as_ok hfA hs hk hg hh
    simp only [fx_cka] at hck
    split at hck
    · rename_i u hu
      simp only [Bool.and_eq_true, List.contains_iff_mem] at hck
      obtain ⟨k', b', vs, rfl, z2, z3, z4, z5, z6, z7⟩ := fx_ob_ok hg.1 h0 hu hh.1
      have hps : ∀ t ∈ ps, fx_ok Y.1 ad t (.ref b') := fun t ht => fx_sbt_ok hg.1 h0 (List.all_eq_true.mp hck.2 t ht)
      obtain ⟨rr, c1, c2⟩ := hoc _ hck.1
      simp at h3
      have hz : ∃ f, z = .inr (.inr (.inr (.inr f))) := by rcases h3 with rfl | rfl <;> exact h2
      obtain ⟨f, rfl⟩ := hz
      exact va_astq hexec hb hK hP hD hS k t0 k' u.2.1 h1 c2 z3 c1 h4 hdg (h5 (.inr (.inr (.inr (.inr (va_up f x.toNatClampNeg (some b')))))) _ (by rcases h3 with rfl | rfl <;> exact ⟨_, rfl⟩) fx_el_up hps (fun _ => rfl))
    · cases hck
  · obtain ⟨G, L, S, F⟩ := g
    simp only [] at hs
    split at hs
    · rename_i a S
      obtain ⟨v0, st', rfl, h1, h3⟩ := fx_g1 hg
      split at hs
      · rename_i u hu
        split at hs
        · rename_i hc
          cases hs
          obtain ⟨k, bb, z, rfl, z2, z3, z4, z5, z6, z7⟩ := fx_ar_ok hg.1 h1 hu hh.1
          have hty : ∃ ty, tys[u.2.1]? = some (Y.2.2.1 u.2.1, ty) := by
            obtain ⟨t1, t2, t3, t4, t5⟩ := htb
            have h6 := hc.2
            by_cases q : 4 ≤ u.2.1
            · obtain ⟨C, hC⟩ := t5 _ q h6
              exact ⟨_, hC⟩
            · have : u.2.1 = 0 ∨ u.2.1 = 1 ∨ u.2.1 = 2 ∨ u.2.1 = 3 := by omega
              rcases this with e | e | e | e <;> rw [e]
              · exact ⟨_, t1⟩
              · exact ⟨_, t2⟩
              · exact ⟨_, t3⟩
              · exact ⟨_, t4⟩
          obtain ⟨ty, hty⟩ := hty
          refine va_alen hexec hb hK hP k u.2.1 z3 hty rfl hdg (fx_kp (hk _ List.mem_cons_self) h3 hh ⟨_, rfl, ?_⟩)
          have e : (Int32.ofNat u.2.2.1).toInt = (u.2.2.1 : Int) := nI_toInt (by omega)
          simp only [e]
          exact ⟨Int.le_refl _, Int.le_refl _⟩
        · cases hs
      · cases hs
    · cases hs
  · split at hs
    · rename_i q hq
      split at hs
      · rename_i hc
        cases hs
        have hqm := hkt q (List.mem_of_find?_eq_some hq)
        have hqi := List.find?_some hq
        simp at hqi
        unfold fx_k4 at hqm
        rw [hqi] at hqm
        exact lv_ldc hexec hb hown (hts _ hqm) hdg (fx_kp (hk _ List.mem_cons_self) hg hh ⟨_, rfl, by rw [fx_i32 hc.1 hc.2]; exact ⟨Int.le_refl _, Int.le_refl _⟩⟩)
      · cases hs
    · cases hs
  · split at hs
    · rename_i q hq
      split at hs
      · rename_i hc
        cases hs
        have hqm := hkt q (List.mem_of_find?_eq_some hq)
        have hqi := List.find?_some hq
        simp at hqi
        unfold fx_k4 at hqm
        rw [hqi] at hqm
        exact lv_ldcw hexec hb hown (hts _ hqm) hdg (fx_kp (hk _ List.mem_cons_self) hg hh ⟨_, rfl, by rw [fx_i32 hc.1 hc.2]; exact ⟨Int.le_refl _, Int.le_refl _⟩⟩)
      · cases hs
    · cases hs
  · split at hs
    · rename_i q hq
      cases hs
      have hqm := hk2 q (List.mem_of_find?_eq_some hq)
      have hqi := List.find?_some hq
      simp at hqi
      obtain ⟨e, hqm⟩ := hqm
      rw [hqi] at hqm
      exact lv_ldc2 hexec hb hown (hts _ hqm) hdg (fx_kp (hk _ List.mem_cons_self) hg hh ⟨_, rfl, by rw [e]; exact ⟨Int.le_refl _, Int.le_refl _⟩⟩)
    · cases hs
  · cases hs
end FX10
