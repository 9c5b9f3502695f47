-- fields
def fx_ob (T : List fx_G) (G : List fx_T) (a : fx_V) : Option (Nat × Nat × List fx_T) := match fx_gr G a with
  | some g => match T[g]? with
    | some (.inl q) => some (g, q.1, q.2)
    | _ => none
  | none => none
def fx_ar (T : List fx_G) (G : List fx_T) (a : fx_V) : Option (Nat × Nat × Nat × List fx_T) := match fx_gr G a with
  | some g => match T[g]? with
    | some (.inr q) => some (g, q.1, q.2.1, q.2.2)
    | _ => none
  | none => none
theorem fx_ob_ok {Y : fx_Y} {ad : List Nat} {G : List fx_T} {r : List Value} {a : fx_V} {v : Value} {u : Nat × Nat × List fx_T} {ws : va_W} (h : fx_ty Y ad G r) (hv : fx_v r a = some v) (hG : fx_ob Y.2.1 G a = some u) (hw : fx_wo Y ad ws) : ∃ (k b : Nat) (vs : List Value), v = .ref b ∧ r[a.1]? = some (.ref b) ∧ ws[k]? = some (b, .inr (u.2.1, vs)) ∧ Y.1[k]? = some u.1 ∧ Y.2.1[u.1]? = some (.inl u.2) ∧ vs.length = u.2.2.length ∧ ∀ (i : Nat) (t : fx_T), u.2.2[i]? = some t → ∃ v, vs[i]? = some v ∧ fx_ok Y.1 ad t v := by
  unfold fx_ob at hG
  split at hG
  · rename_i g hg
    split at hG
    · rename_i q hq
      cases hG
      obtain ⟨k, b, e, T, h1, h2, h3, h4, h5, h6⟩ := fx_cell h hv hg hw
      rw [hq] at h5
      cases h5
      obtain ⟨vs, rfl, h7, h8⟩ := fx_obj h6
      exact ⟨k, b, vs, h1, h2, h3, h4, hq, h7, h8⟩
    · cases hG
  · cases hG
theorem fx_ar_ok {Y : fx_Y} {ad : List Nat} {G : List fx_T} {r : List Value} {a : fx_V} {v : Value} {u : Nat × Nat × Nat × List fx_T} {ws : va_W} (h : fx_ty Y ad G r) (hv : fx_v r a = some v) (hG : fx_ar Y.2.1 G a = some u) (hw : fx_wo Y ad ws) : ∃ (k b : Nat) (x : fx_A), v = .ref b ∧ r[a.1]? = some (.ref b) ∧ ws[k]? = some (b, .inl (Y.2.2.1 u.2.1, u.2.2.1, x)) ∧ Y.1[k]? = some u.1 ∧ Y.2.1[u.1]? = some (.inr u.2) ∧ fx_sh u.2.1 x ∧ ∀ (j : Nat) (t : fx_T), j < u.2.2.1 → u.2.2.2[j % u.2.2.2.length]? = some t → fx_ok Y.1 ad t (fx_el x j) := by
  unfold fx_ar at hG
  split at hG
  · rename_i g hg
    split at hG
    · rename_i q hq
      cases hG
      obtain ⟨k, b, e, T, h1, h2, h3, h4, h5, h6⟩ := fx_cell h hv hg hw
      rw [hq] at h5
      cases h5
      obtain ⟨x, rfl, h7, h8⟩ := fx_arr h6
      exact ⟨k, b, x, h1, h2, h3, h4, hq, h7, h8⟩
    · cases hG
  · cases hG
def fx_gl (Ts nest : List Cond) (cl : List vw_C) (own : String) (q : Nat × Nat × Nat) : Prop := ∃ (C : String) (T : u_T) (N : Nat), cl[q.2.1]? = some (C, T, N) ∧ q.2.2 < N ∧ (∀ w ∈ u_ws C T N, w ∈ Ts) ∧ (Cond.fieldLink own q.1 (T q.2.2).1 (T q.2.2).2.1 (T q.2.2).2.2.1 ∈ Ts ∨ ∃ host, Cond.fieldLinkNest own q.1 (T q.2.2).1 (T q.2.2).2.1 (T q.2.2).2.2.1 host ∈ nest)
def fx_fk (kd : Nat) (ty : FieldType) : Prop := match kd with
  | 0 => ty = .int
  | 1 => ty = .long
  | 3 => ty = .boolean
  | _ => ∃ C, ty = .object C
def fx_pl (Ts nest : List Cond) (cl : List vw_C) (own : String) (q : Nat × Nat × Nat × Nat) : Prop := ∃ (C : String) (T : u_T) (N : Nat) (ty0 : Nat → FieldType) (ty : FieldType), cl[q.2.1]? = some (C, T, N) ∧ q.2.2.1 < N ∧ (∀ w ∈ u_ws C T N, w ∈ Ts) ∧
  (∀ k, k < N → parseFieldDescriptor (T k).2.2.1 = some (ty0 k)) ∧ (∀ a, a < N → ∀ b, b < N → a ≠ b → (T a).2.1 ≠ (T b).2.1) ∧ (T q.2.2.1).2.2.2 = false ∧ parseFieldDescriptor (T q.2.2.1).2.2.1 = some ty ∧ fx_fk q.2.2.2 ty ∧
  (Cond.fieldLink own q.1 (T q.2.2.1).1 (T q.2.2.1).2.1 (T q.2.2.1).2.2.1 ∈ Ts ∨ ∃ host, Cond.fieldLinkNest own q.1 (T q.2.2.1).1 (T q.2.2.1).2.1 (T q.2.2.1).2.2.1 host ∈ nest)
def fx_kk (kd : Nat) (t : fx_T) : Bool := match kd, t with
  | 0, .inl _ => true
  | 1, .inr (.inl _) => true
  | 3, .inl i => decide (0 ≤ i.1) && decide (i.2 ≤ 1)
  | 4, .inr (.inr _) => true
  | _, _ => false
theorem fx_01 {x : Int32} (h1 : 0 ≤ x.toInt) (h2 : x.toInt ≤ 1) : x = 0 ∨ x = 1 := by
  have e0 : (0 : Int32).toInt = 0 := rfl
  have e1 : (1 : Int32).toInt = 1 := by decide +kernel
  by_cases h : x.toInt = 0
  · exact Or.inl (Int32.toInt_inj.mp (by rw [h, e0]))
  · exact Or.inr (Int32.toInt_inj.mp (by rw [e1]; omega))
theorem fx_kk_ok {gs ad : List Nat} {kd : Nat} {t : fx_T} {ty : FieldType} {v : Value} (h : fx_kk kd t = true) (hf : fx_fk kd ty) (hv : fx_ok gs ad t v) : narrow ty v = v ∧ fits ty v = true := by
  unfold fx_kk at h
  split at h
  · simp only [fx_fk] at hf
    subst hf
    obtain ⟨x, rfl, -⟩ := hv
    exact ⟨rfl, rfl⟩
  · simp only [fx_fk] at hf
    subst hf
    obtain ⟨x, rfl, -⟩ := hv
    exact ⟨rfl, rfl⟩
  · simp only [fx_fk] at hf
    subst hf
    obtain ⟨x, rfl, h1, h2⟩ := hv
    simp at h
    rcases fx_01 (x := x) (by omega) (by omega) with rfl | rfl
    · exact ⟨by decide +kernel, by decide +kernel⟩
    · exact ⟨by decide +kernel, by decide +kernel⟩
  · simp only [fx_fk] at hf
    obtain ⟨C, rfl⟩ := hf
    rename_i g
    cases g with
    | zero => simp only [fx_ok] at hv; subst hv; exact ⟨rfl, rfl⟩
    | succ g => obtain ⟨k, b, -, -, rfl⟩ := hv; exact ⟨rfl, rfl⟩
  · cases h
/-- a type that is a block of groups, by its groups -/
def fx_spl (T : List fx_G) (t : fx_T) : List fx_T := match t with
  | .inr (.inr (g + 1)) => if g < 10000 then [t] else (List.range 32).filterMap fun d => if T[32 * (g - 10000) + d]?.isSome then some (.inr (.inr (32 * (g - 10000) + d + 1))) else none
  | t => [t]
theorem fx_spl_ok {Y : fx_Y} {ad : List Nat} {ws : va_W} {t : fx_T} {v : Value} (hw : fx_wo Y ad ws) (hv : fx_ok Y.1 ad t v) : ∃ t' ∈ fx_spl Y.2.1 t, fx_ok Y.1 ad t' v := by
  unfold fx_spl
  split
  · rename_i g
    split
    · exact ⟨_, List.mem_singleton.mpr rfl, hv⟩
    · rename_i hg
      obtain ⟨k, a, h1, h2, rfl⟩ := hv
      have h4 : (ws.map Prod.fst)[k]? = some a := by rw [hw.1]; exact h1
      rw [List.getElem?_map] at h4
      cases h5 : ws[k]? with
      | none => rw [h5] at h4; cases h4
      | some q =>
        obtain ⟨b', e⟩ := q
        obtain ⟨g', T, g1, g2, g3⟩ := hw.2 k _ e h5
        have hb : g' < 10000 ∧ g' / 32 = g - 10000 := by
          rcases h2 with ⟨q, -⟩ | ⟨-, g3, q0, q1, q2⟩
          · omega
          · rw [g1] at q1; cases q1; exact ⟨q0, q2⟩
        have e1 : 32 * (g - 10000) + g' % 32 = g' := by omega
        refine ⟨.inr (.inr (g' + 1)), List.mem_filterMap.mpr ⟨g' % 32, List.mem_range.mpr (by omega), ?_⟩, k, a, h1, Or.inl ⟨hb.1, g1⟩, rfl⟩
        rw [e1, g2]
        rfl
  · exact ⟨_, List.mem_singleton.mpr rfl, hv⟩
def fx_gf (T : List fx_G) (fl : List (Nat × Nat × Nat)) (pc i : Nat) (g : fx_S) : Option (List (Nat × fx_S)) := match g.2.2.1 with
  | a :: S => match fl.find? (fun q => q.1 == i), fx_ob T g.1 a with
    | some q, some u => if u.2.1 = q.2.1 then (match u.2.2[q.2.2]? with
      | some t => match g.2.2.2.find? (fun f => f.1 == a.1 && f.2.1 == q.2.2) with
        | some f => some [(pc + 3, (g.1, g.2.1, f.2.2 :: S, g.2.2.2))]
        | none => some ((fx_spl T t).map fun t => (pc + 3, (g.1 ++ [t], g.2.1, (g.1.length, 0) :: S, (a.1, q.2.2, (g.1.length, 0)) :: g.2.2.2)))
      | none => none) else none
    | _, _ => none
  | _ => none
def fx_pf (T : List fx_G) (md : List (Nat × Nat)) (pl : List (Nat × Nat × Nat × Nat)) (pc i : Nat) (g : fx_S) : Option (List (Nat × fx_S)) := match g.2.2.1 with
  | b :: a :: S => match pl.find? (fun q => q.1 == i), fx_ob T g.1 a with
    | some q, some u => if u.2.1 = q.2.1 then (match u.2.2[q.2.2.1]? with
      | some t => if fx_sbt g.1 b t = true ∧ fx_kk q.2.2.2 t = true ∧ md.contains (u.2.1, q.2.2.1) = true then some [(pc + 3, (g.1, g.2.1, S, (a.1, q.2.2.1, b) :: fx_kf g.1 u.1 q.2.2.1 q.2.2.1 g.2.2.2))] else none
      | none => none) else none
    | _, _ => none
  | _ => none
section FX7
variable {Y : fx_Y} {ad : List Nat} {nL : Nat} {D : va_G} {cl : List vw_C} {A : Nat → Prop} {H0 : Heap} {md : List (Nat × Nat)} {w0 : va_W} {p : Program} {l : Launch} {e : Env} {R : Room} {s : State} {m : MethodId} {args : Array Value} {below : List Frame} {meth : Method} {c : Code} {Q : State → Prop} {cc : ByteArray} {pc : Nat} {r0 w : List Value} {ws : va_W} {H : Heap} {ls : Array Slot} {st : List Value} {locs : List Loc} {tys : List (ClassId × FieldType)}
theorem fx_gf_ok {Ts nest : List Cond} {own : String} (hexec : p.tables.exec = Jvm.exec) (hb : c.code = cc) (hts : ∀ w ∈ Ts, w.before args s = true) (hnest : ∀ w ∈ nest, va_Nw w s) (hown : s.vm.findClass own = some m.cls) (hK : va_K D cl tys s) {fl : List (Nat × Nat × Nat)} (hfl : ∀ q ∈ fl, fx_gl Ts nest cl own q) {i : Nat} (hdg : decode cc pc = .ok (.getfield i, 3)) {g : fx_S} {l' : List (Nat × fx_S)} (hs : fx_gf Y.2.1 fl pc i g = some l') (hk : ∀ q ∈ l', fx_W Y ad nL D cl A H0 md w0 p l e R s m args below meth c Q r0 q.1 q.2) (hg : fx_g Y ad nL g (r0 ++ w) ws ls st) (hh : fx_hp Y ad D cl A H0 md w0 ws H locs) : W p l e R s m args below meth c H locs 0 0 Q (F0 m pc ls st) := by
  obtain ⟨G, L, S, F⟩ := g
  simp only [fx_gf] at hs
  split at hs
  · rename_i a S
    obtain ⟨v0, st', rfl, h1, h3⟩ := fx_g1 hg
    split at hs
    · rename_i q u hq hu
      have hqm := List.mem_of_find?_eq_some hq
      have hqi : q.1 = i := by have := List.find?_some hq; simpa using this
      split at hs
      · rename_i hci
        split at hs
        · rename_i t ht
          obtain ⟨k, b, vs, rfl, z2, z3, z4, z5, z6, z7⟩ := fx_ob_ok hg.1 h1 hu hh.1
          have get : ∀ v : Value, vs[q.2.2]? = some v → W p l e R s m args below meth c H locs 0 0 Q (F0 m (pc + 3) ls (v :: st')) → W p l e R s m args below meth c H locs 0 0 Q (F0 m pc ls (.ref b :: st')) := by
            intro v hv hw
            obtain ⟨C, T, N, c1, c2, c3, c4⟩ := hfl q hqm
            rw [hqi] at c4
            rcases c4 with c4 | ⟨host, c4⟩
            · exact va_get hexec hb hts c3 hown hK hh.2.1 k (by rw [z3, hci]) c1 q.2.2 c2 (hts _ c4) (fun _ h9 => h9) hv hdg hw
            · exact va_getN hexec hb hts c3 hown hK hh.2.1 k (by rw [z3, hci]) c1 q.2.2 c2 (va_Nw.use rfl (hnest _ c4)) (fun _ h9 => h9) hv hdg hw
          split at hs
          · rename_i f hf
            cases hs
            have hfm := List.mem_of_find?_eq_some hf
            have hfe := List.find?_some hf
            simp at hfe
            obtain ⟨b', k', e', v, y1, y2, y3, y4⟩ := hg.2.2.2 f hfm
            rw [hfe.1, z2] at y1
            cases y1
            have ek := hh.2.2.1.1 _ _ _ _ y2 z3 rfl
            subst ek
            rw [z3] at y2
            cases y2
            rw [hfe.2] at y3
            exact get v y3 (hk _ List.mem_cons_self w ws H ls _ locs ⟨hg.1, hg.2.1, fx_st_push y4 h3.2.2.1, hg.2.2.2⟩ hh)
          · cases hs
            obtain ⟨v, y1, y2'⟩ := z7 _ _ ht
            obtain ⟨t', tm, y2⟩ := fx_spl_ok hh.1 y2'
            refine get v y1 (hk _ (List.mem_map.mpr ⟨t', tm, rfl⟩) (w ++ [v]) ws H ls _ locs ?_ hh)
            rw [← List.append_assoc]
            have hp := fx_push h3 y2
            refine ⟨hp.1, hp.2.1, hp.2.2.1, fun f hf => ?_⟩
            rcases List.mem_cons.mp hf with rfl | hf
            · exact ⟨b, k, _, v, fx_get_mono _ z2, z3, y1, fx_v_new hg.1⟩
            · exact hp.2.2.2 f hf
        · cases hs
      · cases hs
    · cases hs
  · cases hs
theorem fx_pf_ok {Ts nest : List Cond} {own : String} (hexec : p.tables.exec = Jvm.exec) (hb : c.code = cc) (hts : ∀ w ∈ Ts, w.before args s = true) (hnest : ∀ w ∈ nest, va_Nw w s) (hown : s.vm.findClass own = some m.cls) (hK : va_K D cl tys s) {pl : List (Nat × Nat × Nat × Nat)} (hpl : ∀ q ∈ pl, fx_pl Ts nest cl own q) (hfF : ∀ q ∈ pl, fx_fr Y [(q.2.1, q.2.2.1)]) {i : Nat} (hdg : decode cc pc = .ok (.putfield i, 3)) {g : fx_S} {l' : List (Nat × fx_S)} (hs : fx_pf Y.2.1 md pl pc i g = some l') (hk : ∀ q ∈ l', fx_W Y ad nL D cl A H0 md w0 p l e R s m args below meth c Q r0 q.1 q.2) (hg : fx_g Y ad nL g (r0 ++ w) ws ls st) (hh : fx_hp Y ad D cl A H0 md w0 ws H locs) : W p l e R s m args below meth c H locs 0 0 Q (F0 m pc ls st) := by
  obtain ⟨G, L, S, F⟩ := g
  simp only [fx_pf] at hs
  split at hs
  · rename_i b a S
    obtain ⟨v0, v, st', rfl, h1, h2, h3⟩ := fx_g2 hg
    split at hs
    · rename_i q u hq hu
      have hqm := List.mem_of_find?_eq_some hq
      have hqi : q.1 = i := by have := List.find?_some hq; simpa using this
      split at hs
      · rename_i hci
        split at hs
        · rename_i t ht
          split at hs
          · rename_i hc
            cases hs
            obtain ⟨e1, e2, e3⟩ := hc
            simp only [List.contains_iff_mem] at e3
            obtain ⟨k, bb, vs, rfl, z2, z3, z4, z5, z6, z7⟩ := fx_ob_ok hg.1 h1 hu hh.1
            have hv := fx_sbt_ok hg.1 h2 e1
            obtain ⟨C, T, N, ty0, ty, c1, c2, c3, c4, c5, c6, c7, c8, c9⟩ := hpl q hqm
            obtain ⟨n1, n2⟩ := fx_kk_ok e2 c8 hv
            have hlen : q.2.2.1 < vs.length := by rw [z6]; exact (List.getElem?_eq_some_iff.mp ht).1
            have z3' : ws[k]? = some (bb, .inr (q.2.1, vs)) := by rw [z3, hci]
            have kk : ∀ (H1 : Heap) (locs1 : List Loc), va_P D cl (ws.set k (bb, .inr (q.2.1, vs.set q.2.2.1 v))) H1 → va_D A (ws.set k (bb, .inr (q.2.1, vs.set q.2.2.1 v))) → va_S A H0 H1 locs1 → W p l e R s m args below meth c H1 locs1 0 0 Q (F0 m (pc + 3) ls st') := by
              intro H1 locs1 hP1 hD1 hS1
              refine hk _ List.mem_cons_self w _ H1 ls st' locs1 ⟨hg.1, hg.2.1, h3.2.2.1, fun f hf => ?_⟩ ⟨?_, hP1, hD1, hS1, ?_⟩
              · rcases List.mem_cons.mp hf with rfl | hf
                · refine ⟨bb, k, _, v, z2, by rw [List.getElem?_set_self (List.getElem?_eq_some_iff.mp z3).1], ?_, h2⟩
                  show (vs.set q.2.2.1 v)[q.2.2.1]? = some v
                  rw [List.getElem?_set_self hlen]
                · refine fx_kf_ok hg.1 hh.1 hh.2.2.1 hg.2.2.2 z3' z4 ?_ f hf
                  intro j vj hj hat
                  show (vs.set q.2.2.1 v)[j]? = some vj
                  rw [List.getElem?_set_ne (by omega)]
                  exact hat
              · refine fx_wo_set hh.1 z3' z4 z5 ?_
                have := fx_ok_set (ci := u.2.1) z6 z7 ht hv
                rw [hci] at this
                rw [show u.2 = (q.2.1, u.2.2) from by rw [← hci]]
                exact this
              · exact ⟨fx_sm_set hh.2.2.2.2.1 z3' (by rw [← hci]; exact e3), hfF q hqm _ _ (fx_sm_set fx_sm_refl z3' (List.mem_singleton.mpr rfl)) hh.2.2.2.2.2⟩
            rw [hqi] at c9
            rcases c9 with c9 | ⟨host, c9⟩
            · exact va_put hexec hb hts c3 ty0 c4 c5 hown hK hh.2.1 hh.2.2.1 hh.2.2.2.1 k z3' c1 q.2.2.1 c2 (hts _ c9) (fun _ h9 => h9) c6 c7 n1 n2 hlen hdg kk
            · exact va_putN hexec hb hts c3 ty0 c4 c5 hown hK hh.2.1 hh.2.2.1 hh.2.2.2.1 k z3' c1 q.2.2.1 c2 (va_Nw.use rfl (hnest _ c9)) (fun _ h9 => h9) c6 c7 n1 n2 hlen hdg kk
          · cases hs
        · cases hs
      · cases hs
    · cases hs
  · cases hs
end FX7
