def fx_rk (rk : Nat) (ret : Option FieldType) : Prop := match rk with
  | 0 => ret = some .int
  | 3 => ret = some .boolean
  | 4 => ∃ C, ret = some (.object C)
  | _ => ret = none
def fx_rt (T : List fx_G) (c0 : fx_C) (pm : List (Nat × Nat)) (rk : Nat) (o : Instr) (len : Nat) (g : fx_S) : Option Bool := match o, len with
  | .ireturn, 1 => some (match g.2.2.1 with
    | [a] => (match fx_iv g.1 a with
      | some i => rk == 0 || (rk == 3 && decide (0 ≤ i.1) && decide (i.2 ≤ 1))
      | none => false) && c0.2.2.1.any fun po => (match po.1 with
        | some t => fx_sbt g.1 a t
        | none => false) && fx_pc T c0 pm g po
    | _ => false)
  | .areturn, 1 => some (match g.2.2.1 with
    | [a] => rk == 4 && (fx_kd g.1 a == 2 || fx_kd g.1 a == 3) && c0.2.2.1.any fun po => (match po.1 with
        | some t => fx_sbt g.1 a t
        | none => false) && fx_pc T c0 pm g po
    | _ => false)
  | .return_, 1 => some (match g.2.2.1 with
    | [] => rk == 9 && c0.2.2.1.any fun po => po.1.isNone && fx_pc T c0 pm g po
    | _ => false)
  | _, _ => none
section FXE
variable {Y : fx_Y} {ad : List Nat} {nL : Nat} {D : va_G} {cl : List vw_C} {A : Nat → Prop} {H0 : Heap} {md : List (Nat × Nat)} {w0 : va_W} {p : Program} {l : Launch} {e : Env} {R : Room} {s : State} {m : MethodId} {args : Array Value} {below : List Frame} {meth : Method} {c : Code} {Q : State → Prop} {cc : ByteArray} {pc : Nat} {r0 w : List Value} {ws : va_W} {H : Heap} {ls : Array Slot} {st : List Value} {locs : List Loc} {tys : List (ClassId × FieldType)}
theorem fx_rt_ok {c0 : fx_C} {av : List Value} {rk : Nat} {pm : List (Nat × Nat)} (hexec : p.tables.exec = Jvm.exec) (hb : c.code = cc) (hlocks : meth.locks = false) (hrk : fx_rk rk meth.sig.returnType) (hav : fx_ty Y ad c0.1 av) {o : Instr} {len : Nat} (hdg : decode cc pc = .ok (o, len)) {g : fx_S} (hp : fx_pmo r0 av pm) (hs : fx_rt Y.2.1 c0 pm rk o len g = some true) :
    fx_W Y ad nL D cl (va_A w0 s.heap.size) s.heap c0.2.2.2 w0 p l e R s m args below meth c (MQ below (fx_Qc Y ad D cl c0 av w0 s.heap.size) args s 0 0 (va_A w0 s.heap.size)) r0 pc g := by
  intro w ws H ls st locs hg hh
  have hp' : fx_pmo (r0 ++ w) av pm := fun q hq => by obtain ⟨v, h1, h2⟩ := hp q hq; exact ⟨v, fx_get_mono _ h1, h2⟩
  have hfree : ∀ q ∈ locs, va_A w0 s.heap.size q.base := fun q hq => hh.2.2.2.1.2.2 q hq
  have fin : ∀ (rv : Option Value) (po : fx_P), po ∈ c0.2.2.1 → (match po.1 with
    | none => rv = none
    | some t => ∃ v, rv = some v ∧ fx_ok Y.1 ad t v) → fx_pc Y.2.1 c0 pm g po = true → ∀ t : State, t.heap = H → s.WarmedH t.vm → fx_Qc Y ad D cl c0 av w0 s.heap.size args s (.returned rv) t := by
    intro rv po hm h1 h2 t ht _
    obtain ⟨a1, a2⟩ := fx_pc_ok hg hh.1 hh.2.2.1 hav hp' h2
    exact ⟨⟨ws, rv, rfl, by rw [ht]; exact hh.2.1, hh.1, hh.2.2.2.2.2, hh.2.2.2.2.1, po, hm, h1, a1, a2⟩, hh.2.2.2.1.F ht⟩
  unfold fx_rt at hs
  split at hs
  · obtain ⟨G, L, S, F⟩ := g
    simp only [Option.some.injEq] at hs
    split at hs
    · rename_i a
      simp only [Bool.and_eq_true] at hs
      obtain ⟨h1, h2⟩ := hs
      obtain ⟨po, m1, m2⟩ := List.any_eq_true.mp h2
      rw [Bool.and_eq_true] at m2
      obtain ⟨u, st', rfl, v1, v2⟩ := fx_g1 hg
      have e := fx_st_nil v2.2.2.1
      subst e
      split at h1
      · rename_i i hi
        obtain ⟨x, rfl, x1, x2⟩ := fx_iv_ok hg.1 hi v1
        have hpo : (match po.1 with
            | none => some (Value.int x) = none
            | some t => ∃ v, some (Value.int x) = some v ∧ fx_ok Y.1 ad t v) := by
          have m3 := m2.1
          split at m3
          · rename_i t ht
            rw [ht]
            exact ⟨_, rfl, fx_sbt_ok hg.1 v1 m3⟩
          · cases m3
        simp only [Bool.or_eq_true, Bool.and_eq_true, decide_eq_true_eq, beq_iff_eq] at h1
        rcases h1 with rfl | ⟨⟨rfl, q1⟩, q2⟩
        · exact W.iret hexec hb hrk (fin _ po m1 hpo m2.2) hfree hdg
        · refine W.zret hexec hb hrk ?_ (fin _ po m1 hpo m2.2) hfree hdg
          rcases fx_01 (x := x) (by omega) (by omega) with rfl | rfl
          · decide +kernel
          · decide +kernel
      · cases h1
    · cases hs
  · obtain ⟨G, L, S, F⟩ := g
    simp only [Option.some.injEq] at hs
    split at hs
    · rename_i a
      simp only [Bool.and_eq_true, beq_iff_eq, Bool.or_eq_true] at hs
      obtain ⟨⟨rfl, h1⟩, h2⟩ := hs
      obtain ⟨po, m1, m2⟩ := List.any_eq_true.mp h2
      rw [Bool.and_eq_true] at m2
      obtain ⟨u, st', rfl, v1, v2⟩ := fx_g1 hg
      have e := fx_st_nil v2.2.2.1
      subst e
      have hpo : (match po.1 with
          | none => some u = none
          | some t => ∃ v, some u = some v ∧ fx_ok Y.1 ad t v) := by
        have m3 := m2.1
        split at m3
        · rename_i t ht
          rw [ht]
          exact ⟨_, rfl, fx_sbt_ok hg.1 v1 m3⟩
        · cases m3
      obtain ⟨C, hC⟩ := hrk
      exact W.aret hexec hb hC (Or.inl ⟨C, rfl⟩) ((fx_kd23 h1 hg.1 v1).elim Or.inr Or.inl) (fin _ po m1 hpo m2.2) hfree hdg
    · cases hs
  · obtain ⟨G, L, S, F⟩ := g
    simp only [Option.some.injEq] at hs
    split at hs
    · simp only [Bool.and_eq_true, beq_iff_eq] at hs
      obtain ⟨rfl, h2⟩ := hs
      obtain ⟨po, m1, m2⟩ := List.any_eq_true.mp h2
      rw [Bool.and_eq_true] at m2
      have e := fx_st_nil hg.2.2.1
      subst e
      have hpo : (match po.1 with
          | none => (none : Option Value) = none
          | some t => ∃ v, (none : Option Value) = some v ∧ fx_ok Y.1 ad t v) := by
        have m3 := m2.1
        split
        · rfl
        · rename_i t ht
          rw [ht] at m3
          cases m3
      exact W.vret hexec hb hrk (fin _ po m1 hpo m2.2) hfree hdg
    · cases hs
  · cases hs
end FXE
-- coming to the head of a loop
def fx_pmc (ts : List fx_V) (pm pn : List (Nat × Nat)) : Bool := pn.all fun q => match ts[q.2]? with
  | some v => decide (v.2 = 0) && pm.contains (q.1, v.1)
  | none => false
def fx_inc (T : List fx_G) (g : fx_S) (pm : List (Nat × Nat)) (src : Option (Nat × List (Nat × Nat))) (N : fx_N) : Bool := match g.2.2.1 with
  | [] => match fx_lcs g N.2.1 with
    | some ts => match fx_el1 T g ts N.2.2.1 with
      | some q => fx_pmc q.2 pm N.2.2.2.2 && (match src with
        | none => true
        | some u => fx_mb N.2.2.2.1 && fx_ml q.1.1 u.1 q.2 u.2 N.2.2.2.1)
      | none => false
    | none => false
  | _ => false
theorem fx_inc_ok {Y : fx_Y} {ad : List Nat} {nL : Nat} {A : Nat → Prop} {g : fx_S} {r0 w av : List Value} {ws : va_W} {ls : Array Slot} {st : List Value} {pm : List (Nat × Nat)} {src : Option (Nat × List (Nat × Nat))} {N : fx_N} (hg : fx_g Y ad nL g (r0 ++ w) ws ls st) (hw : fx_wo Y ad ws) (hD : va_D A ws) (hp : fx_pmo r0 av pm) (hsrc : ∀ u, src = some u → r0.length = u.1) (h : fx_inc Y.2.1 g pm src N = true) :
    ∃ rN : List Value, st = [] ∧ fx_g Y ad nL (fx_nst N) rN ws ls [] ∧ fx_pmo rN av N.2.2.2.2 ∧ ∀ u, src = some u → fx_mv rN N.2.2.2.1 < fx_mv r0 u.2 := by
  unfold fx_inc at h
  split at h
  · rename_i hS
    split at h
    · rename_i ts hts
      split at h
      · rename_i q hq
        rw [Bool.and_eq_true] at h
        obtain ⟨rt, t1, t2, t3⟩ := fx_lcs_ok hg N.2.1 ts hts
        obtain ⟨w2, rN, g1, g2, g3⟩ := fx_el1_ok hw hD N.2.2.1 g ts q _ rt hg t1 hq
        have hst : st = [] := by have := hg.2.2.1; rw [hS] at this; exact fx_st_nil this
        obtain ⟨b1, b2⟩ := fx_fs_ty N.2.2.1 _ rt rN t2 g2
        obtain ⟨w3, e3⟩ := fx_fs_pre _ _ _ g2
        refine ⟨rN, hst, ⟨b1, ⟨hg.2.1.1, hg.2.1.2.1, ?_⟩, rfl, ?_⟩, ?_, ?_⟩
        · refine fx_ix_ok N.2.1 0 (fun i p t hi => ?_)
          obtain ⟨v, v1, v2⟩ := t3 i p t hi
          exact ⟨v, by rw [Nat.zero_add, e3]; exact fx_get_mono _ v1, v2⟩
        · have : (N.2.1.map Prod.snd).length = N.2.1.length := List.length_map _
          rw [this] at b2
          exact b2
        · intro x hx
          have h1 := List.all_eq_true.mp h.1 x hx
          split at h1
          · rename_i v hv
            simp only [Bool.and_eq_true, decide_eq_true_eq, List.contains_iff_mem] at h1
            obtain ⟨u, u1, u2⟩ := fx_st_get g3 hv
            obtain ⟨z, z1, z2⟩ := hp _ h1.2
            obtain ⟨v1, v2⟩ := v
            simp only [] at h1 z1
            rw [h1.1] at u2
            have e := fx_v_get0 u2
            rw [List.append_assoc, fx_get_mono _ z1] at e
            cases e
            exact ⟨u, u1, z2⟩
          · cases h1
        · intro u hu
          subst hu
          have h2 := h.2
          simp only [Bool.and_eq_true] at h2
          rw [List.append_assoc] at g1 g3
          exact fx_ml_ok g1.1 (hsrc u rfl) g3 _ _ h2.1 h2.2
      · cases h
    · cases h
  · cases h
abbrev fx_D : Type := Nat × List (Nat × fx_T) × List fx_Q × Nat
def fx_sel (T : List fx_G) (g : fx_S) (d : fx_D) : Option (fx_S × fx_V) := match fx_lcs g d.2.1 with
  | some ts => match fx_el1 T g ts d.2.2.1 with
    | some q => match q.2[d.2.2.2]? with
      | some v => some (q.1, v)
      | none => none
    | none => none
  | none => none
/-- a head covers what comes, or, told by the values of symbols, several together -/
def fx_cov (T : List fx_G) (pm : List (Nat × Nat)) (src : Option (Nat × List (Nat × Nat))) (an : List fx_N) (pc : Nat) : List fx_D → fx_S → Bool
  | [], g => an.any (fun N => N.1 == pc && fx_inc T g pm src N)
  | d :: ds, g => match fx_sel T g d with
    | some q => match fx_iv q.1.1 q.2 with
      | some i => (List.range (i.2 - i.1 + 1).toNat).all fun k => match fx_rf q.1.1 q.2 (i.1 + (k : Nat), i.1 + (k : Nat)) with
        | some G => fx_cov T pm src an pc ds (G, q.1.2)
        | none => true
      | none => false
    | none => false
theorem fx_cov_ok {Y : fx_Y} {ad : List Nat} {nL : Nat} {A : Nat → Prop} {r0 av : List Value} {ws : va_W} {ls : Array Slot} {st : List Value} {pm : List (Nat × Nat)} {src : Option (Nat × List (Nat × Nat))} {an : List fx_N} {pc : Nat} (hw : fx_wo Y ad ws) (hD : va_D A ws) (hp : fx_pmo r0 av pm) (hsrc : ∀ u, src = some u → r0.length = u.1) : ∀ (ds : List fx_D) (g : fx_S) (w : List Value), fx_g Y ad nL g (r0 ++ w) ws ls st → fx_cov Y.2.1 pm src an pc ds g = true →
    ∃ N ∈ an, N.1 = pc ∧ ∃ rN : List Value, st = [] ∧ fx_g Y ad nL (fx_nst N) rN ws ls [] ∧ fx_pmo rN av N.2.2.2.2 ∧ ∀ u, src = some u → fx_mv rN N.2.2.2.1 < fx_mv r0 u.2
  | [], g, w, hg, h => by
    simp only [fx_cov] at h
    obtain ⟨N, m1, m2⟩ := List.any_eq_true.mp h
    simp only [Bool.and_eq_true, beq_iff_eq] at m2
    exact ⟨N, m1, m2.1, fx_inc_ok hg hw hD hp hsrc m2.2⟩
  | d :: ds, g, w, hg, h => by
    simp only [fx_cov] at h
    split at h
    · rename_i q hq
      split at h
      · rename_i i hi
        unfold fx_sel at hq
        split at hq
        · rename_i ts hts
          split at hq
          · rename_i q1 hq1
            split at hq
            · rename_i v hv
              cases hq
              obtain ⟨rt, t1, t2, t3⟩ := fx_lcs_ok hg d.2.1 ts hts
              obtain ⟨w2, rN, g1, g2, g3⟩ := fx_el1_ok hw hD d.2.2.1 g ts q1 _ rt hg t1 hq1
              obtain ⟨u, u1, u2⟩ := fx_st_get g3 hv
              obtain ⟨x, rfl, x1, x2⟩ := fx_iv_ok g1.1 hi u2
              have hk := List.all_eq_true.mp h (x.toInt - i.1).toNat (List.mem_range.mpr (by omega))
              have ez : i.1 + (((x.toInt - i.1).toNat : Nat) : Int) = x.toInt := by omega
              obtain ⟨G', e1, e2⟩ := fx_rf_ok (i := (i.1 + (((x.toInt - i.1).toNat : Nat) : Int), i.1 + (((x.toInt - i.1).toNat : Nat) : Int))) g1.1 u2 (by simp only []; omega) (by simp only []; omega)
              simp only [e1] at hk
              rw [List.append_assoc] at g1 e2
              exact fx_cov_ok hw hD hp hsrc ds (G', q1.1.2) (w ++ w2) ⟨e2, g1.2⟩ hk
            · cases hq
          · cases hq
        · cases hq
      · cases h
    · cases h
def fx_run (T : List fx_G) (nL : Nat) (c0 : fx_C) (rk : Nat) (x : fx_X) (tb : List (Nat × Instr × Nat)) (an : List fx_N) (sp : List fx_D) (pm : List (Nat × Nat)) (src : Option (Nat × List (Nat × Nat))) : Nat → Bool → Nat → fx_S → Bool
  | 0, _, _, _ => false
  | n + 1, fst, pc, g => if fst = false ∧ an.any (fun N => N.1 == pc) = true then fx_cov T pm src an pc (sp.filter fun d => d.1 == pc) g else
    match tb.find? (fun q => q.1 == pc) with
    | some q => match fx_rt T c0 pm rk q.2.1 q.2.2 g with
      | some b => b
      | none => match fx_step T nL c0.2.2.2 x pc q.2.1 q.2.2 g with
        | some l => l.all fun u => fx_run T nL c0 rk x tb an sp pm src n false u.1 u.2
        | none => false
    | none => false
section FXF
variable {Y : fx_Y} {ad : List Nat} {nL : Nat} {D : va_G} {cl : List vw_C} {A : Nat → Prop} {H0 : Heap} {md : List (Nat × Nat)} {w0 : va_W} {p : Program} {l : Launch} {e : Env} {R : Room} {s : State} {m : MethodId} {args : Array Value} {below : List Frame} {meth : Method} {c : Code} {Q : State → Prop} {cc : ByteArray} {pc : Nat} {r0 w : List Value} {ws : va_W} {H : Heap} {ls : Array Slot} {st : List Value} {locs : List Loc} {tys : List (ClassId × FieldType)}
theorem fx_run_ok {Ts nest : List Cond} {own : String} {E : (Nat → Prop) → State → Prop} {x : fx_X} {c0 : fx_C} {av : List Value} {rk : Nat} {tb : List (Nat × Instr × Nat)} {an : List fx_N} {sp : List fx_D} {pm : List (Nat × Nat)} {src : Option (Nat × List (Nat × Nat))} (hE : fx_env E D cl tys nest) (hEs : E (va_A w0 s.heap.size) s) (hfA : ∀ g, (1000, g) ∈ c0.2.2.2 → fx_fr Y [(1000, g)]) (hfF : ∀ q ∈ x.2.2.1, fx_fr Y [(q.2.1, q.2.2.1)]) (hexec : p.tables.exec = Jvm.exec) (hb : c.code = cc) (hml : c.maxLocals = nL) (hlocks : meth.locks = false) (hrk : fx_rk rk meth.sig.returnType) (hts : ∀ w ∈ Ts, w.before args s = true) (hown : s.vm.findClass own = some m.cls) (htb : fx_tb tys Y.2.2.1) (hx : fx_xok l E Y ad D cl tys Ts nest own R x)
    (hdec : ∀ q ∈ tb, decode cc q.1 = .ok q.2) (hav : fx_ty Y ad c0.1 av) (hp : fx_pmo r0 av pm) (hsrc : ∀ u, src = some u → r0.length = u.1)
    (hloop : ∀ N ∈ an, ∀ rN : List Value, fx_pmo rN av N.2.2.2.2 → (∀ u, src = some u → fx_mv rN N.2.2.2.1 < fx_mv r0 u.2) → ∀ (ws : va_W) (H : Heap) (ls : Array Slot) (st : List Value) (locs : List Loc), fx_g Y ad nL (fx_nst N) rN ws ls st → fx_hp Y ad D cl (va_A w0 s.heap.size) s.heap c0.2.2.2 w0 ws H locs → W p l e R s m args below meth c H locs 0 0 (MQ below (fx_Qc Y ad D cl c0 av w0 s.heap.size) args s 0 0 (va_A w0 s.heap.size)) (F0 m N.1 ls st)) :
    ∀ (n : Nat) (fst : Bool) (pc : Nat) (g : fx_S), fx_run Y.2.1 nL c0 rk x tb an sp pm src n fst pc g = true → fx_W Y ad nL D cl (va_A w0 s.heap.size) s.heap c0.2.2.2 w0 p l e R s m args below meth c (MQ below (fx_Qc Y ad D cl c0 av w0 s.heap.size) args s 0 0 (va_A w0 s.heap.size)) r0 pc g := by
  intro n
  induction n with
  | zero => intro fst pc g h; simp [fx_run] at h
  | succ n ih =>
    intro fst pc g h
    simp only [fx_run] at h
    split at h
    · intro w ws H ls st locs hg hh
      obtain ⟨N, m1, rfl, rN, rfl, g1, g2, g3⟩ := fx_cov_ok hh.1 hh.2.2.1 hp hsrc _ g w hg h
      exact hloop N m1 rN g2 g3 ws H ls [] locs g1 hh
    · split at h
      · rename_i q hq
        have hqm := List.mem_of_find?_eq_some hq
        have hqi := List.find?_some hq
        simp at hqi
        have hdg := hdec q hqm
        rw [hqi] at hdg
        split at h
        · rename_i b hb1
          subst h
          exact fx_rt_ok hexec hb hlocks hrk hav hdg hp hb1
        · split at h
          · rename_i l' hl
            refine fx_step_ok hE hEs rfl hfA hfF hexec hb hml hts hown htb (fun q hq => Or.inr hq) hx hdg hl (fun u hu => ?_)
            exact ih false u.1 u.2 (List.all_eq_true.mp h u hu)
          · cases h
      · cases h
end FXF
