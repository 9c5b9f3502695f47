-- branches
def fx_ng (o : ClassFile.Cond) : ClassFile.Cond := match o with
  | .eq => .ne
  | .ne => .eq
  | .lt => .ge
  | .ge => .lt
  | .gt => .le
  | .le => .gt
def fx_to (g : fx_S) (S : List fx_V) (pc : Nat) (Gs : List (List fx_T)) : List (Nat × fx_S) := Gs.map fun G => (pc, (G, g.2.1, S, g.2.2.2))
def fx_sw (g : fx_S) (S : List fx_V) (a : fx_V) (pc : Nat) : Int → List Int → List (Nat × fx_S)
  | _, [] => []
  | z, f :: l => fx_to g S ((pc : Int) + f).toNat (fx_rf g.1 a (z, z)).toList ++ fx_sw g S a pc (z + 1) l
def fx_s3 (pc : Nat) (o : Instr) (len : Nat) (g : fx_S) : Option (List (Nat × fx_S)) := match o, len with
  | .goto f, 3 => if 0 ≤ (pc : Int) + f then some [(((pc : Int) + f).toNat, g)] else none
  | .ifCond o f, 3 => match g.2.2.1 with
    | a :: S => match fx_iv g.1 a with
      | some i => if 0 ≤ (pc : Int) + f then some (fx_to g S ((pc : Int) + f).toNat (fx_cm o g.1 (some a) none i (0, 0)) ++ fx_to g S (pc + 3) (fx_cm (fx_ng o) g.1 (some a) none i (0, 0))) else none
      | none => none
    | _ => none
  | .if_icmp o f, 3 => match g.2.2.1 with
    | b :: a :: S => match fx_iv g.1 a, fx_iv g.1 b with
      | some i, some j => if 0 ≤ (pc : Int) + f then some (fx_to g S ((pc : Int) + f).toNat (fx_cm o g.1 (some a) (some b) i j) ++ fx_to g S (pc + 3) (fx_cm (fx_ng o) g.1 (some a) (some b) i j)) else none
      | _, _ => none
    | _ => none
  | .ifnull f, 3 => match g.2.2.1 with
    | a :: S => if 0 ≤ (pc : Int) + f then (if fx_kd g.1 a = 2 then some [(pc + 3, (g.1, g.2.1, S, g.2.2.2))] else if fx_kd g.1 a = 3 then some [(((pc : Int) + f).toNat, (g.1, g.2.1, S, g.2.2.2))] else none) else none
    | _ => none
  | .ifnonnull f, 3 => match g.2.2.1 with
    | a :: S => if 0 ≤ (pc : Int) + f then (if fx_kd g.1 a = 3 then some [(pc + 3, (g.1, g.2.1, S, g.2.2.2))] else if fx_kd g.1 a = 2 then some [(((pc : Int) + f).toNat, (g.1, g.2.1, S, g.2.2.2))] else none) else none
    | _ => none
  | .tableswitch d lo hi fs, _ => match g.2.2.1 with
    | a :: S => match fx_iv g.1 a with
      | some _ => if 0 ≤ (pc : Int) + d ∧ fs.toList.all (fun f => decide (0 ≤ (pc : Int) + f)) = true ∧ lo ≤ hi ∧ (fs.toList.length : Int) = hi - lo + 1 then
          some (fx_sw g S a pc lo fs.toList ++ fx_to g S ((pc : Int) + d).toNat ((fx_rf g.1 a (fx_lo32, lo - 1)).toList ++ (fx_rf g.1 a (hi + 1, fx_hi32)).toList)) else none
      | none => none
    | _ => none
  | .lookupswitch d ps, _ => match g.2.2.1 with
    | a :: S => match fx_iv g.1 a with
      | some _ => if 0 ≤ (pc : Int) + d ∧ ps.toList.all (fun q => decide (0 ≤ (pc : Int) + q.2)) = true ∧ (ps.toList.zip (ps.toList.drop 1)).all (fun (a, next) => a.1 < next.1) = true then
          some ((ps.toList.flatMap fun q => fx_to g S ((pc : Int) + q.2).toNat (fx_rf g.1 a (q.1, q.1)).toList) ++ fx_to g S ((pc : Int) + d).toNat [g.1]) else none
      | none => none
    | _ => none
  | _, _ => none
theorem fx_sw_mem {g : fx_S} {S : List fx_V} {a : fx_V} {pc : Nat} {G : List fx_T} : ∀ (fs : List Int) (z : Int) (k : Nat) (f : Int), fs[k]? = some f → fx_rf g.1 a (z + k, z + k) = some G → (((pc : Int) + f).toNat, (G, g.2.1, S, g.2.2.2)) ∈ fx_sw g S a pc z fs
  | [], z, k, f, h, _ => by simp at h
  | x :: l, z, 0, f, h, hr => by
    simp at h
    subst h
    simp only [fx_sw]
    refine List.mem_append.mpr (Or.inl ?_)
    simp only [Int.natCast_zero, Int.add_zero] at hr
    rw [hr]
    simp [fx_to]
  | x :: l, z, k + 1, f, h, hr => by
    simp at h
    simp only [fx_sw]
    refine List.mem_append.mpr (Or.inr (fx_sw_mem l (z + 1) k f h ?_))
    have e : z + 1 + (k : Int) = z + ((k + 1 : Nat) : Int) := by push_cast; omega
    rw [e]
    exact hr
theorem fx_lk (d z : Int) : ∀ (l : List (Int × Int)), (Op.lookupswitch.offset l d z = d) ∨ ∃ q ∈ l, q.1 = z ∧ Op.lookupswitch.offset l d z = q.2
  | [] => Or.inl (Op.lookupswitch.offset_nil d z)
  | (a, o) :: l => by
    rw [Op.lookupswitch.offset_cons]
    split
    · rename_i h
      exact Or.inr ⟨(a, o), List.mem_cons_self, h, rfl⟩
    · rcases fx_lk d z l with h | ⟨q, h1, h2, h3⟩
      · exact Or.inl h
      · exact Or.inr ⟨q, List.mem_cons_of_mem _ h1, h2, h3⟩
section FX5
variable {Y : fx_Y} {ad : List Nat} {nL : Nat} {D : va_G} {cl : List vw_C} {A : Nat → Prop} {H0 : Heap} {md : List (Nat × Nat)} {w0 : va_W} {p : Program} {l : Launch} {e : Env} {R : Room} {s : State} {m : MethodId} {args : Array Value} {below : List Frame} {meth : Method} {c : Code} {Q : State → Prop} {cc : ByteArray} {pc : Nat} {r0 w : List Value} {ws : va_W} {H : Heap} {ls : Array Slot} {st : List Value} {locs : List Loc} {tys : List (ClassId × FieldType)}
theorem fx_ifc (hexec : p.tables.exec = Jvm.exec) (hb : c.code = cc) {o : ClassFile.Cond} {x : Int32} {off : Int} {tgt : Nat} {cells slots : Nat} (hdg : decode cc pc = .ok (.ifCond o off, 3)) (ht : (pc : Int) + off = (tgt : Int))
    (kt : fx_ch o x 0 → W p l e R s m args below meth c H locs cells slots Q (F0 m tgt ls st)) (kf : fx_ch (fx_ng o) x 0 → W p l e R s m args below meth c H locs cells slots Q (F0 m (pc + 3) ls st)) : W p l e R s m args below meth c H locs cells slots Q (F0 m pc ls (.int x :: st)) := by
  have e0 : (0 : Int32).toInt = 0 := rfl
  cases o with
  | eq => exact lv_if_eq hexec hb hdg ht kt kf
  | ne => exact lv_if_ne hexec hb hdg ht kt kf
  | lt => exact lv_if_lt hexec hb hdg ht (fun h => kt (Int32.lt_iff_toInt_lt.mp h)) (fun h => kf (by have := mt Int32.lt_iff_toInt_lt.mpr h; simp only [fx_ng, fx_ch]; omega))
  | ge => exact lv_if_ge hexec hb hdg ht (fun h => kt (Int32.le_iff_toInt_le.mp h)) (fun h => kf (by have := mt Int32.le_iff_toInt_le.mpr h; simp only [fx_ng, fx_ch]; omega))
  | gt => exact lv_if_gt hexec hb hdg ht (fun h => kt (Int32.lt_iff_toInt_lt.mp h)) (fun h => kf (by have := mt Int32.lt_iff_toInt_lt.mpr h; simp only [fx_ng, fx_ch]; omega))
  | le => exact lv_if_le hexec hb hdg ht (fun h => kt (Int32.le_iff_toInt_le.mp h)) (fun h => kf (by have := mt Int32.le_iff_toInt_le.mpr h; simp only [fx_ng, fx_ch]; omega))
theorem fx_icm (hexec : p.tables.exec = Jvm.exec) (hb : c.code = cc) {o : ClassFile.Cond} {x y : Int32} {off : Int} {tgt : Nat} {cells slots : Nat} (hdg : decode cc pc = .ok (.if_icmp o off, 3)) (ht : (pc : Int) + off = (tgt : Int))
    (kt : fx_ch o x y → W p l e R s m args below meth c H locs cells slots Q (F0 m tgt ls st)) (kf : fx_ch (fx_ng o) x y → W p l e R s m args below meth c H locs cells slots Q (F0 m (pc + 3) ls st)) : W p l e R s m args below meth c H locs cells slots Q (F0 m pc ls (.int y :: .int x :: st)) := by
  cases o with
  | eq => exact lv_icmp_eq hexec hb hdg ht kt kf
  | ne => exact lv_icmp_ne hexec hb hdg ht kt kf
  | lt => exact lv_icmp_lt hexec hb hdg ht (fun h => kt (Int32.lt_iff_toInt_lt.mp h)) (fun h => kf (by have := mt Int32.lt_iff_toInt_lt.mpr h; simp only [fx_ng, fx_ch]; omega))
  | ge => exact lv_icmp_ge hexec hb hdg ht (fun h => kt (Int32.le_iff_toInt_le.mp h)) (fun h => kf (by have := mt Int32.le_iff_toInt_le.mpr h; simp only [fx_ng, fx_ch]; omega))
  | gt => exact lv_icmp_gt hexec hb hdg ht (fun h => kt (Int32.lt_iff_toInt_lt.mp h)) (fun h => kf (by have := mt Int32.lt_iff_toInt_lt.mpr h; simp only [fx_ng, fx_ch]; omega))
  | le => exact lv_icmp_le hexec hb hdg ht (fun h => kt (Int32.le_iff_toInt_le.mp h)) (fun h => kf (by have := mt Int32.le_iff_toInt_le.mpr h; simp only [fx_ng, fx_ch]; omega))
theorem fx_kto {g : fx_S} {S : List fx_V} {n : Nat} {Gs : List (List fx_T)} {G' : List fx_T} {l' : List (Nat × fx_S)} (hk : ∀ q ∈ l', fx_W Y ad nL D cl A H0 md w0 p l e R s m args below meth c Q r0 q.1 q.2) (hl : ∀ q ∈ fx_to g S n Gs, q ∈ l') (hG : G' ∈ Gs) (ht : fx_ty Y ad G' (r0 ++ w)) (hlo : fx_lo (r0 ++ w) ls nL g.2.1) (hst : fx_st (r0 ++ w) S st) (hf : ∀ f ∈ g.2.2.2, fx_fa (r0 ++ w) ws f) (hh : fx_hp Y ad D cl A H0 md w0 ws H locs) : W p l e R s m args below meth c H locs 0 0 Q (F0 m n ls st) :=
  hk _ (hl _ (List.mem_map.mpr ⟨G', hG, rfl⟩)) w ws H ls st locs ⟨ht, hlo, hst, hf⟩ hh
theorem fx_tgt {f : Int} (h : 0 ≤ (pc : Int) + f) : (pc : Int) + f = ((((pc : Int) + f).toNat : Nat) : Int) := by omega
theorem fx_s3_ok (hexec : p.tables.exec = Jvm.exec) (hb : c.code = cc) {o : Instr} {len : Nat} (hdg : decode cc pc = .ok (o, len)) {g : fx_S} {l' : List (Nat × fx_S)} (hs : fx_s3 pc o len g = some l') (hk : ∀ q ∈ l', fx_W Y ad nL D cl A H0 md w0 p l e R s m args below meth c Q r0 q.1 q.2) : fx_W Y ad nL D cl A H0 md w0 p l e R s m args below meth c Q r0 pc g := by
  intro w ws H ls st locs hg hh
  unfold fx_s3 at hs
  split at hs
  · split at hs
    · rename_i hc
      cases hs
      exact lv_goto hexec hb hdg (fx_tgt hc) (hk _ List.mem_cons_self w ws H ls _ locs hg hh)
    · cases hs
  · obtain ⟨G, L, S, F⟩ := g
    simp only [] at hs
    split at hs
    · rename_i a S
      obtain ⟨u, st', rfl, h1, h3⟩ := fx_g1 hg
      split at hs
      · rename_i i hi
        obtain ⟨x, rfl, hx⟩ := fx_iv_ok hg.1 hi h1
        split at hs
        · rename_i hc
          cases hs
          refine fx_ifc hexec hb hdg (fx_tgt hc) (fun hq => ?_) (fun hq => ?_)
          · obtain ⟨G', m1, t1⟩ := fx_cm_ok (a := some a) (b := none) _ hg.1 h1 trivial hx (show fx_is (0, 0) 0 from ⟨by decide +kernel, by decide +kernel⟩) hq
            exact fx_kto hk (fun q hq => List.mem_append.mpr (Or.inl hq)) m1 t1 h3.2.1 h3.2.2.1 h3.2.2.2 hh
          · obtain ⟨G', m1, t1⟩ := fx_cm_ok (a := some a) (b := none) _ hg.1 h1 trivial hx (show fx_is (0, 0) 0 from ⟨by decide +kernel, by decide +kernel⟩) hq
            exact fx_kto hk (fun q hq => List.mem_append.mpr (Or.inr hq)) m1 t1 h3.2.1 h3.2.2.1 h3.2.2.2 hh
        · cases hs
      · cases hs
    · cases hs
  · obtain ⟨G, L, S, F⟩ := g
    simp only [] at hs
    split at hs
    · rename_i b a S
      obtain ⟨u, v, st', rfl, h1, h2, h3⟩ := fx_g2 hg
      split at hs
      · rename_i i j hi hj
        obtain ⟨x, rfl, hx⟩ := fx_iv_ok hg.1 hi h1
        obtain ⟨y, rfl, hy⟩ := fx_iv_ok hg.1 hj h2
        split at hs
        · rename_i hc
          cases hs
          refine fx_icm hexec hb hdg (fx_tgt hc) (fun hq => ?_) (fun hq => ?_)
          · obtain ⟨G', m1, t1⟩ := fx_cm_ok (a := some a) (b := some b) _ hg.1 h1 h2 hx hy hq
            exact fx_kto hk (fun q hq => List.mem_append.mpr (Or.inl hq)) m1 t1 h3.2.1 h3.2.2.1 h3.2.2.2 hh
          · obtain ⟨G', m1, t1⟩ := fx_cm_ok (a := some a) (b := some b) _ hg.1 h1 h2 hx hy hq
            exact fx_kto hk (fun q hq => List.mem_append.mpr (Or.inr hq)) m1 t1 h3.2.1 h3.2.2.1 h3.2.2.2 hh
        · cases hs
      · cases hs
    · cases hs
  · obtain ⟨G, L, S, F⟩ := g
    simp only [] at hs
    split at hs
    · rename_i a S
      obtain ⟨u, st', rfl, h1, h3⟩ := fx_g1 hg
      split at hs
      · rename_i hc
        split at hs
        · rename_i h2
          cases hs
          obtain ⟨gg, hG⟩ := fx_kd2 h2
          obtain ⟨-, k, b, -, -, rfl⟩ := fx_kr hg.1 h1 hG
          exact lv_ifnull hexec hb hdg (hk _ List.mem_cons_self w ws H ls _ locs h3 hh)
        · split at hs
          · rename_i h2
            cases hs
            have e := (fx_kr hg.1 h1 (fx_kd3 h2)).2
            simp only [fx_ok] at e
            subst e
            exact lv_ifnullN hexec hb hdg (fx_tgt hc) (hk _ List.mem_cons_self w ws H ls _ locs h3 hh)
          · cases hs
      · cases hs
    · cases hs
  · obtain ⟨G, L, S, F⟩ := g
    simp only [] at hs
    split at hs
    · rename_i a S
      obtain ⟨u, st', rfl, h1, h3⟩ := fx_g1 hg
      split at hs
      · rename_i hc
        split at hs
        · rename_i h2
          cases hs
          have e := (fx_kr hg.1 h1 (fx_kd3 h2)).2
          simp only [fx_ok] at e
          subst e
          exact lv_ifnonnullN hexec hb hdg (hk _ List.mem_cons_self w ws H ls _ locs h3 hh)
        · split at hs
          · rename_i h2
            cases hs
            obtain ⟨gg, hG⟩ := fx_kd2 h2
            obtain ⟨-, k, b, -, -, rfl⟩ := fx_kr hg.1 h1 hG
            exact lv_ifnonnull hexec hb hdg (fx_tgt hc) (hk _ List.mem_cons_self w ws H ls _ locs h3 hh)
          · cases hs
      · cases hs
    · cases hs
  · rename_i d lo hi fs
    obtain ⟨G, L, S, F⟩ := g
    simp only [] at hs
    split at hs
    · rename_i a S
      obtain ⟨u, st', rfl, h1, h3⟩ := fx_g1 hg
      split at hs
      · rename_i i hj
        obtain ⟨x, rfl, hx⟩ := fx_iv_ok hg.1 hj h1
        split at hs
        · rename_i hc
          cases hs
          obtain ⟨c1, c2, c3, c4⟩ := hc
          have r1 := fx_r32 x
          by_cases q1 : x.toInt < lo
          · obtain ⟨G', e1, t1⟩ := fx_rf_ok (i := (fx_lo32, lo - 1)) hg.1 h1 (by simp only []; omega) (by simp only []; omega)
            refine lv_tableOut hexec hb hdg (Or.inl q1) (fx_tgt c1) (fx_kto (g := (G, L, S, F)) hk (fun q hq => List.mem_append.mpr (Or.inr hq)) (G' := G') ?_ t1 h3.2.1 h3.2.2.1 h3.2.2.2 hh)
            exact List.mem_append.mpr (Or.inl (by rw [e1]; simp))
          · by_cases q2 : hi < x.toInt
            · obtain ⟨G', e1, t1⟩ := fx_rf_ok (i := (hi + 1, fx_hi32)) hg.1 h1 (by simp only []; omega) (by simp only []; omega)
              refine lv_tableOut hexec hb hdg (Or.inr q2) (fx_tgt c1) (fx_kto (g := (G, L, S, F)) hk (fun q hq => List.mem_append.mpr (Or.inr hq)) (G' := G') ?_ t1 h3.2.1 h3.2.2.1 h3.2.2.2 hh)
              exact List.mem_append.mpr (Or.inr (by rw [e1]; simp))
            · have hlt : (x.toInt - lo).toNat < fs.toList.length := by omega
              have ho : fs.toList[(x.toInt - lo).toNat]? = some (fs.toList[(x.toInt - lo).toNat]) := List.getElem?_eq_getElem hlt
              generalize hf : fs.toList[(x.toInt - lo).toNat] = f at ho
              have ho' : fs[(x.toInt - lo).toNat]? = some f := by rw [← Array.getElem?_toList]; exact ho
              have c5 := of_decide_eq_true (List.all_eq_true.mp c2 f (List.mem_of_getElem? ho))
              have ex : lo + (((x.toInt - lo).toNat : Nat) : Int) = x.toInt := by omega
              obtain ⟨G', e1, t1⟩ := fx_rf_ok (i := (x.toInt, x.toInt)) hg.1 h1 (Int.le_refl _) (Int.le_refl _)
              have mm := fx_sw_mem (g := (G, L, a :: S, F)) (S := S) (a := a) (pc := pc) (G := G') fs.toList lo _ f ho (by rw [ex]; exact e1)
              exact lv_tableIn hexec hb hdg q1 q2 ho' (fx_tgt c5) (hk _ (List.mem_append.mpr (Or.inl mm)) w ws H ls st' locs ⟨t1, h3.2⟩ hh)
        · cases hs
      · cases hs
    · cases hs
  · rename_i d ps
    obtain ⟨G, L, S, F⟩ := g
    simp only [] at hs
    split at hs
    · rename_i a S
      obtain ⟨u, st', rfl, h1, h3⟩ := fx_g1 hg
      split at hs
      · rename_i i hj
        obtain ⟨x, rfl, hx⟩ := fx_iv_ok hg.1 hj h1
        split at hs
        · rename_i hc
          cases hs
          obtain ⟨c1, c2, c3⟩ := hc
          rcases fx_lk d x.toInt ps.toList with e | ⟨q, m1, m2, e⟩
          · exact lv_lookup hexec hb hdg c3 e (fx_tgt c1) (hk _ (List.mem_append.mpr (Or.inr List.mem_cons_self)) w ws H ls st' locs h3 hh)
          · have c5 := of_decide_eq_true (List.all_eq_true.mp c2 q m1)
            obtain ⟨G', e1, t1⟩ := fx_rf_ok (i := (q.1, q.1)) hg.1 h1 (by simp only []; omega) (by simp only []; omega)
            refine lv_lookup hexec hb hdg c3 e (fx_tgt c5) (hk (((pc : Int) + q.2).toNat, (G', L, S, F)) (List.mem_append.mpr (Or.inl (List.mem_flatMap.mpr ⟨q, m1, ?_⟩))) w ws H ls st' locs ⟨t1, h3.2⟩ hh)
            rw [e1]
            simp [fx_to]
        · cases hs
      · cases hs
    · cases hs
  · cases hs
end FX5
