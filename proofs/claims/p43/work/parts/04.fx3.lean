def fx_s1 (nL pc : Nat) (o : Instr) (len : Nat) (g : fx_S) : Option (List (Nat × fx_S)) := match o, len with
  | .iconst n, 1 => if fx_lo32 ≤ n ∧ n ≤ fx_hi32 then some [(pc + 1, fx_pu g (.inl (n, n)))] else none
  | .bipush n, 2 => if -128 ≤ n ∧ n ≤ 127 then some [(pc + 2, fx_pu g (.inl (n, n)))] else none
  | .sipush n, 3 => if -32768 ≤ n ∧ n ≤ 32767 then some [(pc + 3, fx_pu g (.inl (n, n)))] else none
  | .aconst_null, 1 => some [(pc + 1, fx_pu g (.inr (.inr 0)))]
  | .lconst n, 1 => some [(pc + 1, fx_pu g (.inr (.inl ((n : Nat), (n : Nat)))))]
  | .iload i, 2 => fx_ld g i (pc + 2) [0]
  | .iload_n i, 1 => fx_ld g i (pc + 1) [0]
  | .lload i, 2 => fx_ld g i (pc + 2) [1]
  | .lload_n i, 1 => fx_ld g i (pc + 1) [1]
  | .aload i, 2 => fx_ld g i (pc + 2) [2, 3]
  | .aload_n i, 1 => fx_ld g i (pc + 1) [2, 3]
  | .istore i, 2 => fx_so nL g i (pc + 2) [0]
  | .istore_n i, 1 => fx_so nL g i (pc + 1) [0]
  | .astore i, 2 => fx_so nL g i (pc + 2) [2, 3]
  | .astore_n i, 1 => fx_so nL g i (pc + 1) [2, 3]
  | .lstore i, 2 => fx_so2 nL g i (pc + 2)
  | .lstore_n i, 1 => fx_so2 nL g i (pc + 1)
  | .iinc i n, 3 => fx_in nL g i n (pc + 3)
  | _, _ => none
theorem fx_ofI8 {n : Int} (h1 : -128 ≤ n) (h2 : n ≤ 127) : (Int8.ofInt n).toInt32.toInt = n := by
  rw [Int8.toInt_toInt32, Int8.toInt_ofInt]
  have : Int8.size = 256 := rfl
  rw [this, Int.bmod_eq_of_le] <;> omega
theorem fx_ofI16 {n : Int} (h1 : -32768 ≤ n) (h2 : n ≤ 32767) : (Int16.ofInt n).toInt32.toInt = n := by
  rw [Int16.toInt_toInt32, Int16.toInt_ofInt]
  have : Int16.size = 65536 := rfl
  rw [this, Int.bmod_eq_of_le] <;> omega
section FX3
variable {Y : fx_Y} {ad : List Nat} {nL : Nat} {D : va_G} {cl : List vw_C} {A : Nat → Prop} {H0 : Heap} {md : List (Nat × Nat)} {w0 : va_W} {p : Program} {l : Launch} {e : Env} {R : Room} {s : State} {m : MethodId} {args : Array Value} {below : List Frame} {meth : Method} {c : Code} {Q : State → Prop} {cc : ByteArray} {pc : Nat} {r0 w : List Value} {ws : va_W} {H : Heap} {ls : Array Slot} {st : List Value} {locs : List Loc} {tys : List (ClassId × FieldType)}
theorem fx_ld_i {g : fx_S} {i n : Nat} {l' : List (Nat × fx_S)} (hs : fx_ld g i n [0] = some l') (hk : ∀ q ∈ l', fx_W Y ad nL D cl A H0 md w0 p l e R s m args below meth c Q r0 q.1 q.2) (hg : fx_g Y ad nL g (r0 ++ w) ws ls st) (hh : fx_hp Y ad D cl A H0 md w0 ws H locs) : ∃ x : Int32, ls[i]? = some (.val (.int x)) ∧ W p l e R s m args below meth c H locs 0 0 Q (F0 m n ls (.int x :: st)) := by
  unfold fx_ld at hs
  split at hs
  · rename_i q hf
    obtain ⟨hq, rfl⟩ := fx_find hf
    split at hs
    · rename_i hc
      cases hs
      simp at hc
      obtain ⟨i, hG⟩ := fx_kd0 hc
      obtain ⟨v, h1, h2⟩ := hg.2.1.2.2 q hq
      obtain ⟨x, rfl⟩ := fx_ki hg.1 h1 hG
      exact ⟨x, h2, hk _ List.mem_cons_self w ws H ls _ locs ⟨hg.1, hg.2.1, fx_st_push h1 hg.2.2.1, hg.2.2.2⟩ hh⟩
    · cases hs
  · cases hs
theorem fx_ld_l {g : fx_S} {i n : Nat} {l' : List (Nat × fx_S)} (hs : fx_ld g i n [1] = some l') (hk : ∀ q ∈ l', fx_W Y ad nL D cl A H0 md w0 p l e R s m args below meth c Q r0 q.1 q.2) (hg : fx_g Y ad nL g (r0 ++ w) ws ls st) (hh : fx_hp Y ad D cl A H0 md w0 ws H locs) : ∃ x : Int64, ls[i]? = some (.val (.long x)) ∧ W p l e R s m args below meth c H locs 0 0 Q (F0 m n ls (.long x :: st)) := by
  unfold fx_ld at hs
  split at hs
  · rename_i q hf
    obtain ⟨hq, rfl⟩ := fx_find hf
    split at hs
    · rename_i hc
      cases hs
      simp at hc
      obtain ⟨i, hG⟩ := fx_kd1 hc
      obtain ⟨v, h1, h2⟩ := hg.2.1.2.2 q hq
      obtain ⟨-, x, rfl, -⟩ := fx_kl hg.1 h1 hG
      exact ⟨x, h2, hk _ List.mem_cons_self w ws H ls _ locs ⟨hg.1, hg.2.1, fx_st_push h1 hg.2.2.1, hg.2.2.2⟩ hh⟩
    · cases hs
  · cases hs
theorem fx_kd23 {G : List fx_T} {r : List Value} {a : fx_V} {v : Value} (h : fx_kd G a = 2 ∨ fx_kd G a = 3) (ht : fx_ty Y ad G r) (hv : fx_v r a = some v) : (∃ x : Nat, v = .ref x) ∨ v = .null := by
  rcases h with h | h
  · obtain ⟨g, hG⟩ := fx_kd2 h
    obtain ⟨-, k, b, -, -, rfl⟩ := fx_kr ht hv hG
    exact Or.inl ⟨b, rfl⟩
  · exact Or.inr (fx_kr ht hv (fx_kd3 h)).2
theorem fx_ld_a {g : fx_S} {i n : Nat} {l' : List (Nat × fx_S)} (hs : fx_ld g i n [2, 3] = some l') (hk : ∀ q ∈ l', fx_W Y ad nL D cl A H0 md w0 p l e R s m args below meth c Q r0 q.1 q.2) (hg : fx_g Y ad nL g (r0 ++ w) ws ls st) (hh : fx_hp Y ad D cl A H0 md w0 ws H locs) : ∃ v : Value, ((∃ x : Nat, v = .ref x) ∨ v = .null) ∧ ls[i]? = some (.val v) ∧ W p l e R s m args below meth c H locs 0 0 Q (F0 m n ls (v :: st)) := by
  unfold fx_ld at hs
  split at hs
  · rename_i q hf
    obtain ⟨hq, rfl⟩ := fx_find hf
    split at hs
    · rename_i hc
      cases hs
      simp at hc
      obtain ⟨v, h1, h2⟩ := hg.2.1.2.2 q hq
      exact ⟨v, fx_kd23 hc hg.1 h1, h2, hk _ List.mem_cons_self w ws H ls _ locs ⟨hg.1, hg.2.1, fx_st_push h1 hg.2.2.1, hg.2.2.2⟩ hh⟩
    · cases hs
  · cases hs
theorem fx_so_i {g : fx_S} {i n : Nat} {l' : List (Nat × fx_S)} (hs : fx_so nL g i n [0] = some l') (hk : ∀ q ∈ l', fx_W Y ad nL D cl A H0 md w0 p l e R s m args below meth c Q r0 q.1 q.2) (hg : fx_g Y ad nL g (r0 ++ w) ws ls st) (hh : fx_hp Y ad D cl A H0 md w0 ws H locs) : ∃ (x : Int32) (st' : List Value), st = .int x :: st' ∧ i < nL ∧ ∀ ls' : Array Slot, lv_has ls' nL ((i, .int x) :: (fx_lv (r0 ++ w) g.2.1).filter (fun q => !(q.1 == i) && !(q.1 + 1 == i && q.2.category == 2))) → W p l e R s m args below meth c H locs 0 0 Q (F0 m n ls' st') := by
  unfold fx_so at hs
  split at hs
  · rename_i a S hS
    split at hs
    · rename_i hc
      cases hs
      simp at hc
      obtain ⟨j, hG⟩ := fx_kd0 hc.1
      have h3 := hg.2.2.1
      rw [hS] at h3
      obtain ⟨v, st', rfl, h1, h2⟩ := fx_st_cons h3
      obtain ⟨x, rfl⟩ := fx_ki hg.1 h1 hG
      exact ⟨x, st', rfl, hc.2, fun ls' h' => hk _ List.mem_cons_self w ws H ls' _ locs ⟨hg.1, fx_lo_s1 hg.1 hg.2.1 h1 h', h2, hg.2.2.2⟩ hh⟩
    · cases hs
  · cases hs
theorem fx_so_a {g : fx_S} {i n : Nat} {l' : List (Nat × fx_S)} (hs : fx_so nL g i n [2, 3] = some l') (hk : ∀ q ∈ l', fx_W Y ad nL D cl A H0 md w0 p l e R s m args below meth c Q r0 q.1 q.2) (hg : fx_g Y ad nL g (r0 ++ w) ws ls st) (hh : fx_hp Y ad D cl A H0 md w0 ws H locs) : ∃ (v : Value) (st' : List Value), ((∃ x : Nat, v = .ref x) ∨ v = .null) ∧ st = v :: st' ∧ i < nL ∧ ∀ ls' : Array Slot, lv_has ls' nL ((i, v) :: (fx_lv (r0 ++ w) g.2.1).filter (fun q => !(q.1 == i) && !(q.1 + 1 == i && q.2.category == 2))) → W p l e R s m args below meth c H locs 0 0 Q (F0 m n ls' st') := by
  unfold fx_so at hs
  split at hs
  · rename_i a S hS
    split at hs
    · rename_i hc
      cases hs
      simp at hc
      have h3 := hg.2.2.1
      rw [hS] at h3
      obtain ⟨v, st', rfl, h1, h2⟩ := fx_st_cons h3
      exact ⟨v, st', fx_kd23 hc.1 hg.1 h1, rfl, hc.2, fun ls' h' => hk _ List.mem_cons_self w ws H ls' _ locs ⟨hg.1, fx_lo_s1 hg.1 hg.2.1 h1 h', h2, hg.2.2.2⟩ hh⟩
    · cases hs
  · cases hs
theorem fx_so_l {g : fx_S} {i n : Nat} {l' : List (Nat × fx_S)} (hs : fx_so2 nL g i n = some l') (hk : ∀ q ∈ l', fx_W Y ad nL D cl A H0 md w0 p l e R s m args below meth c Q r0 q.1 q.2) (hg : fx_g Y ad nL g (r0 ++ w) ws ls st) (hh : fx_hp Y ad D cl A H0 md w0 ws H locs) : ∃ (x : Int64) (st' : List Value), st = .long x :: st' ∧ i + 1 < nL ∧ ∀ ls' : Array Slot, lv_has ls' nL ((i, .long x) :: (fx_lv (r0 ++ w) g.2.1).filter (fun q => !(q.1 == i) && (!(q.1 == i + 1) && !(q.1 + 1 == i && q.2.category == 2)))) → W p l e R s m args below meth c H locs 0 0 Q (F0 m n ls' st') := by
  unfold fx_so2 at hs
  split at hs
  · rename_i a S hS
    split at hs
    · rename_i hc
      cases hs
      obtain ⟨j, hG⟩ := fx_kd1 hc.1
      have h3 := hg.2.2.1
      rw [hS] at h3
      obtain ⟨v, st', rfl, h1, h2⟩ := fx_st_cons h3
      obtain ⟨-, x, rfl, -⟩ := fx_kl hg.1 h1 hG
      exact ⟨x, st', rfl, hc.2, fun ls' h' => hk _ List.mem_cons_self w ws H ls' _ locs ⟨hg.1, fx_lo_s2 hg.1 hg.2.1 h1 h', h2, hg.2.2.2⟩ hh⟩
    · cases hs
  · cases hs
theorem fx_in_i {g : fx_S} {i n : Nat} {d : Int} {l' : List (Nat × fx_S)} (hs : fx_in nL g i d n = some l') (hk : ∀ q ∈ l', fx_W Y ad nL D cl A H0 md w0 p l e R s m args below meth c Q r0 q.1 q.2) (hg : fx_g Y ad nL g (r0 ++ w) ws ls st) (hh : fx_hp Y ad D cl A H0 md w0 ws H locs) : ∃ (x : Int32) (k : Nat), (fx_lv (r0 ++ w) g.2.1)[k]? = some (i, .int x) ∧ i < nL ∧ ∀ ls' : Array Slot, lv_has ls' nL ((i, .int (x + Int32.ofInt d)) :: (fx_lv (r0 ++ w) g.2.1).filter (fun q => !(q.1 == i) && !(q.1 + 1 == i && q.2.category == 2))) → W p l e R s m args below meth c H locs 0 0 Q (F0 m n ls' st) := by
  unfold fx_in at hs
  split at hs
  · rename_i q hf
    obtain ⟨hq, rfl⟩ := fx_find hf
    split at hs
    · rename_i hc
      cases hs
      obtain ⟨j, hG⟩ := fx_kd0 hc.1
      obtain ⟨v, h1, h2⟩ := hg.2.1.2.2 q hq
      obtain ⟨x, rfl⟩ := fx_ki hg.1 h1 hG
      obtain ⟨k, hk1⟩ := List.getElem?_of_mem (fx_lv_mem hq h1)
      refine ⟨x, k, hk1, hc.2, fun ls' h' => hk _ List.mem_cons_self w ws H ls' _ locs ⟨hg.1, fx_lo_s1 hg.1 hg.2.1 ?_ h', hg.2.2.1, hg.2.2.2⟩ hh⟩
      obtain ⟨u, g1, y, rfl, -⟩ := hg.1.2 _ _ hG
      unfold fx_v at h1 ⊢
      rw [g1] at h1
      simp only [g1]
      simp only [Option.some.injEq, Value.int.injEq] at h1
      rw [← h1, fx_addO]
    · cases hs
  · cases hs
theorem fx_s1_ok (hexec : p.tables.exec = Jvm.exec) (hb : c.code = cc) {o : Instr} {len : Nat} (hdg : decode cc pc = .ok (o, len)) {g : fx_S} {l' : List (Nat × fx_S)} (hs : fx_s1 nL pc o len g = some l') (hk : ∀ q ∈ l', fx_W Y ad nL D cl A H0 md w0 p l e R s m args below meth c Q r0 q.1 q.2) : fx_W Y ad nL D cl A H0 md w0 p l e R s m args below meth c Q r0 pc g := by
  intro w ws H ls st locs hg hh
  have hl := fx_lo_has hg.2.1
  unfold fx_s1 at hs
  split at hs
  · split at hs
    · rename_i n hc
      cases hs
      exact lv_iconst hexec hb hdg rfl (fx_kp (hk _ List.mem_cons_self) hg hh ⟨_, rfl, by rw [fx_i32 hc.1 hc.2]; exact ⟨Int.le_refl _, Int.le_refl _⟩⟩)
    · cases hs
  · split at hs
    · rename_i n hc
      cases hs
      exact lv_bipush hexec hb hdg rfl (fx_kp (hk _ List.mem_cons_self) hg hh ⟨_, rfl, by rw [fx_ofI8 hc.1 hc.2]; exact ⟨Int.le_refl _, Int.le_refl _⟩⟩)
    · cases hs
  · split at hs
    · rename_i n hc
      cases hs
      exact lv_sipush hexec hb hdg rfl (fx_kp (hk _ List.mem_cons_self) hg hh ⟨_, rfl, by rw [fx_ofI16 hc.1 hc.2]; exact ⟨Int.le_refl _, Int.le_refl _⟩⟩)
    · cases hs
  · cases hs
    exact lv_null hexec hb hdg (fx_kp (hk _ List.mem_cons_self) hg hh rfl)
  · rename_i n
    cases hs
    refine lv_lconst hexec hb hdg rfl (fx_kp (hk _ List.mem_cons_self) hg hh ⟨_, rfl, ?_⟩)
    have : ∀ n : Fin 2, (Int64.ofNat (n : Nat)).toInt = ((n : Nat) : Int) := by decide +kernel
    rw [this n]
    exact ⟨Int.le_refl _, Int.le_refl _⟩
  · obtain ⟨x, h1, h2⟩ := fx_ld_i hs hk hg hh
    exact lv_iload hexec hb hdg h1 h2
  · obtain ⟨x, h1, h2⟩ := fx_ld_i hs hk hg hh
    exact lv_iload_n hexec hb hdg rfl h1 h2
  · obtain ⟨x, h1, h2⟩ := fx_ld_l hs hk hg hh
    exact lv_lload hexec hb hdg h1 h2
  · obtain ⟨x, h1, h2⟩ := fx_ld_l hs hk hg hh
    exact lv_lload_n hexec hb hdg rfl h1 h2
  · obtain ⟨v, hv, h1, h2⟩ := fx_ld_a hs hk hg hh
    rcases hv with ⟨x, rfl⟩ | rfl
    · exact lv_aload hexec hb hdg h1 h2
    · exact lv_aloadN hexec hb hdg h1 h2
  · obtain ⟨v, hv, h1, h2⟩ := fx_ld_a hs hk hg hh
    rcases hv with ⟨x, rfl⟩ | rfl
    · exact lv_aload_n hexec hb hdg rfl h1 h2
    · exact lv_aload_nN hexec hb hdg rfl h1 h2
  · obtain ⟨x, st', rfl, h1, h2⟩ := fx_so_i hs hk hg hh
    exact lv_istore hexec hb hdg hl h1 rfl h2
  · obtain ⟨x, st', rfl, h1, h2⟩ := fx_so_i hs hk hg hh
    exact lv_istore_n hexec hb hdg rfl hl h1 rfl h2
  · obtain ⟨v, st', hv, rfl, h1, h2⟩ := fx_so_a hs hk hg hh
    rcases hv with ⟨x, rfl⟩ | rfl
    · exact lv_astore hexec hb hdg hl h1 rfl h2
    · exact lv_astoreN hexec hb hdg hl h1 rfl h2
  · obtain ⟨v, st', hv, rfl, h1, h2⟩ := fx_so_a hs hk hg hh
    rcases hv with ⟨x, rfl⟩ | rfl
    · exact lv_astore_n hexec hb hdg rfl hl h1 rfl h2
    · exact lv_astore_nN hexec hb hdg rfl hl h1 rfl h2
  · obtain ⟨x, st', rfl, h1, h2⟩ := fx_so_l hs hk hg hh
    exact lv_lstore hexec hb hdg hl h1 rfl h2
  · obtain ⟨x, st', rfl, h1, h2⟩ := fx_so_l hs hk hg hh
    exact lv_lstore_n hexec hb hdg rfl hl h1 rfl h2
  · obtain ⟨x, k, hk1, h1, h2⟩ := fx_in_i hs hk hg hh
    exact lv_iinc hexec hb hdg hl hk1 rfl h1 rfl h2
  · cases hs
end FX3
