theorem dX12_sign_0 : decode cX12_sign 0 = .ok (.iload_n 1, 1) := by decide +kernel
theorem dX12_sign_1 : decode cX12_sign 1 = .ok (.aload_n 0, 1) := by decide +kernel
theorem dX12_sign_2 : decode cX12_sign 2 = .ok (.getfield 167, 3) := by decide +kernel
theorem dX12_sign_5 : decode cX12_sign 5 = .ok (.if_icmp .ge 16, 3) := by decide +kernel
theorem dX12_sign_21 : decode cX12_sign 21 = .ok (.iconst 0, 1) := by decide +kernel
theorem dX12_sign_22 : decode cX12_sign 22 = .ok (.ireturn, 1) := by decide +kernel
theorem dX12_sign_8 : decode cX12_sign 8 = .ok (.aload_n 0, 1) := by decide +kernel
theorem dX12_sign_9 : decode cX12_sign 9 = .ok (.getfield 13, 3) := by decide +kernel
theorem dX12_sign_12 : decode cX12_sign 12 = .ok (.iload_n 1, 1) := by decide +kernel
theorem dX12_sign_13 : decode cX12_sign 13 = .ok (.baload, 1) := by decide +kernel
theorem dX12_sign_14 : decode cX12_sign 14 = .ok (.sipush 255, 3) := by decide +kernel
theorem dX12_sign_17 : decode cX12_sign 17 = .ok (.iand, 1) := by decide +kernel
theorem dX12_sign_18 : decode cX12_sign 18 = .ok (.goto 4, 3) := by decide +kernel
theorem dX12_isSignHere_0 : decode cX12_isSignHere 0 = .ok (.aload_n 0, 1) := by decide +kernel
theorem dX12_isSignHere_1 : decode cX12_isSignHere 1 = .ok (.getfield 213, 3) := by decide +kernel
theorem dX12_isSignHere_4 : decode cX12_isSignHere 4 = .ok (.iconst 5, 1) := by decide +kernel
theorem dX12_isSignHere_5 : decode cX12_isSignHere 5 = .ok (.if_icmp .ne 19, 3) := by decide +kernel
theorem dX12_isSignHere_24 : decode cX12_isSignHere 24 = .ok (.iconst 0, 1) := by decide +kernel
theorem dX12_isSignHere_25 : decode cX12_isSignHere 25 = .ok (.ireturn, 1) := by decide +kernel
theorem dX12_isSignHere_8 : decode cX12_isSignHere 8 = .ok (.aload_n 0, 1) := by decide +kernel
theorem dX12_isSignHere_9 : decode cX12_isSignHere 9 = .ok (.aload_n 0, 1) := by decide +kernel
theorem dX12_isSignHere_10 : decode cX12_isSignHere 10 = .ok (.getfield 206, 3) := by decide +kernel
theorem dX12_isSignHere_13 : decode cX12_isSignHere 13 = .ok (.invokevirtual 209, 3) := by decide +kernel
theorem dX12_isSignHere_16 : decode cX12_isSignHere 16 = .ok (.iload_n 1, 1) := by decide +kernel
theorem dX12_isSignHere_17 : decode cX12_isSignHere 17 = .ok (.if_icmp .ne 7, 3) := by decide +kernel
theorem dX12_isSignHere_20 : decode cX12_isSignHere 20 = .ok (.iconst 1, 1) := by decide +kernel
theorem dX12_isSignHere_21 : decode cX12_isSignHere 21 = .ok (.goto 4, 3) := by decide +kernel
def b255 (x : Int) : Int := (Int32.ofInt x &&& 255).toInt
theorem b255_b (x : Int) : 0 ≤ b255 x ∧ b255 x ≤ 255 := by
  have e : (255 : Int32).toInt = 255 := by decide +kernel
  have h := fx_and (x := Int32.ofInt x) (y := 255) (by omega)
  unfold b255
  omega
section HW7
variable {l : Launch} {E : (Nat → Prop) → State → Prop} {ad : List Nat} {D : va_G} {cy : Nat → ClassId} {A : Nat → Prop} {H0 : Heap} {p : Program} {e : Env} {R : Room} {s : State} {m : MethodId} {args : Array Value} {below : List Frame} {meth : Method} {c : Code} {Q : State → Prop} {cc : ByteArray} {nL : Nat} {own : String} {pc pc' : Nat} {lv lv' : List (Nat × Value)} {st : List Value} {ws : va_W}
theorem hr_bld (C : hC l E ad D cy A H0 p e R s m args below meth c Q cc nL own) {g a n : Nat} {lo hi z : Int} (ha : ad[g]? = some a) (hT : TM[g]? = some (.inr (2, n, [.inl (lo, hi)]))) (h0 : 0 ≤ z) (h1 : z < n) (hn : n ≤ 100000) (hdg : decode cc pc = .ok (.baload, 1)) (hp : pc + 1 = pc') (kk : HW l E ad D cy A H0 p e R s m args below meth c Q cc nL own pc' lv (zv (vi ws g z.toNat) :: st) ws) : HW l E ad D cy A H0 p e R s m args below meth c Q cc nL own pc lv (zv z :: .ref a :: st) ws := fun H locs ls hl hh => by
  subst hp
  obtain ⟨x, g1, ⟨f, rfl⟩, g3, -⟩ := tm_arr hh.1 ha hT
  have hK := (C.2.2.2.2.2.1.1 _ _ C.2.2.2.2.2.2.1)
  have en := zv_n h0 (show z ≤ 2147483647 by omega)
  have e : vi ws g z.toNat = (f z.toNat).toInt := vi_a g1
  have kk' := kk
  rw [e, ← zv_of] at kk'
  refine va_bald C.1 C.2.1 hK.1 hh.2.1 g 2 g1 (ht_tys cy).2.2.1 (vp_in_iff.mpr ⟨by rw [zv_i ⟨by omega, by omega⟩]; omega, by rw [zv_i ⟨by omega, by omega⟩]; omega⟩) hdg ?_
  rw [en]
  exact kk' H locs ls hl hh
theorem hr_and255 (C : hC l E ad D cy A H0 p e R s m args below meth c Q cc nL own) {x : Int} (hdg : decode cc pc = .ok (.iand, 1)) (hp : pc + 1 = pc') (kk : HW l E ad D cy A H0 p e R s m args below meth c Q cc nL own pc' lv (zv (b255 x) :: st) ws) : HW l E ad D cy A H0 p e R s m args below meth c Q cc nL own pc lv (zv 255 :: zv x :: st) ws := fun H locs ls hl hh => by
  subst hp
  refine lv_iand C.1 C.2.1 hdg ?_
  have e : Value.int (Int32.ofInt x &&& Int32.ofInt 255) = zv (b255 x) := zv_of _
  rw [e]
  exact kk H locs ls hl hh
theorem hr_ld2 (C : hC l E ad D cy A H0 p e R s m args below meth c Q cc nL own) {i : Nat} {n : Int} (hk : fx_k8 wsL_law own (i, n)) (hdg : decode cc pc = .ok (.ldc2_w i, 3)) (hp : pc + 3 = pc') (kk : HW l E ad D cy A H0 p e R s m args below meth c Q cc nL own pc' lv (.long (Int64.ofInt n) :: st) ws) : HW l E ad D cy A H0 p e R s m args below meth c Q cc nL own pc lv st ws := fun H locs ls hl hh => by
  subst hp; exact lv_ldc2 C.1 C.2.1 C.2.2.2.2.1 (C.2.2.2.1 _ hk.2) hdg (kk H locs ls hl hh)
end HW7
theorem ok_l {gs ad : List Nat} (x : Int64) : fx_ok gs ad (.inr (.inl (-9223372036854775808, 9223372036854775807))) (.long x) := ⟨x, rfl, fx_r64 x⟩
/-- the sign at a place of the text -/
def sgv (ws : va_W) (k : Int) : Int := if k < vi ws 0 3 then b255 (vi ws 2 k.toNat) else 0
theorem sgv_b (ws : va_W) (k : Int) : 0 ≤ sgv ws k ∧ sgv ws k ≤ 255 := by
  unfold sgv
  split
  · exact b255_b _
  · omega

set_option maxRecDepth 100000 in
set_option maxHeartbeats 4000000 in
theorem h_sign {l : Launch} {E : (Nat → Prop) → State → Prop} {ad : List Nat} {D : va_G} {cy : Nat → ClassId} (h : fx_env E D classes (tys cy) nestW) (r : Nat) (k : Int) (hr0 : ad[0]? = some r) (hk : 0 ≤ k ∧ k ≤ 2147483647) : hM l yX12_sign cX12_sign 2 (some .int) ({ frames := 0, cells := 0, slots := 0, locals := 0 }) E ad D cy (fun av ws => av = [.ref r, zv k] ∧ True) (fun _ ws rv ws1 => ws = ws1 ∧ rv = some (zv (sgv ws k))) := by
  refine hM_of h (by decide) ?_
  intro av ws p e s m below meth c hwo hnd hpre hlocks hr C
  obtain ⟨rfl, hpre⟩ := hpre
  refine ⟨Nat.le_of_ble_eq_true rfl, ?_⟩
  refine hr_pick (lv' := [(0, .ref r), (1, zv k)]) [0, 1] rfl ?_
  refine hr_iln C 1 dX12_sign_0 rfl rfl rfl ?_
  refine hr_aln C 0 dX12_sign_1 rfl rfl rfl ?_
  refine hr_gI (lo := 0) (hi := 1600) C hr0 TM0 rfl fl_X12_167 dX12_sign_2 rfl (fun b1 b2 => ?_)
  refine hr_cmp C 21 dX12_sign_5 (by decide) ⟨by omega, by omega⟩ ⟨by omega, by omega⟩ rfl (fun c3 => ?_) (fun c3 => ?_)
  · have c3 : (vi ws 0 3 : Int) ≤ k := c3
    refine hr_ic C dX12_sign_21 rfl ?_
    exact hr_iret C hlocks hr dX12_sign_22 ⟨rfl, by unfold sgv; rw [if_neg (by omega)]⟩
  · have c3 : (k : Int) < vi ws 0 3 := c3
    refine hr_aln C 0 dX12_sign_8 rfl rfl rfl ?_
    refine hr_gA (g := 2) C hr0 TM0 rfl (by decide) fl_X12_13 dX12_sign_9 rfl (fun a4 ha5 => ?_)
    refine hr_iln C 1 dX12_sign_12 rfl rfl rfl ?_
    refine hr_bld C ha5 TMa_2 (by omega) (by omega) (by decide) dX12_sign_13 rfl ?_
    refine hr_si C dX12_sign_14 (by decide +kernel) rfl ?_
    refine hr_and255 C dX12_sign_17 rfl ?_
    refine hr_goto C 22 dX12_sign_18 (by decide) ?_
    exact hr_iret C hlocks hr dX12_sign_22 ⟨rfl, by unfold sgv; rw [if_pos (by omega)]⟩
set_option maxRecDepth 100000 in
set_option maxHeartbeats 4000000 in
theorem h_isSignHere {l : Launch} {E : (Nat → Prop) → State → Prop} {ad : List Nat} {D : va_G} {cy : Nat → ClassId} (h : fx_env E D classes (tys cy) nestW) (r : Nat) (k : Int) (hr0 : ad[0]? = some r) (hk : rg k) : hM l yX12_isSignHere cX12_isSignHere 2 (some .boolean) ({ frames := 1, cells := 0, slots := 0, locals := 21 }) E ad D cy (fun av ws => av = [.ref r, zv k] ∧ True) (fun _ ws rv ws1 => ws = ws1 ∧ rv = some (zv (if vi ws 0 8 = 5 ∧ sgv ws (vi ws 0 6) = k then 1 else 0))) := by
  refine hM_of h (by decide) ?_
  intro av ws p e s m below meth c hwo hnd hpre hlocks hr C
  obtain ⟨rfl, hpre⟩ := hpre
  refine ⟨Nat.le_of_ble_eq_true rfl, ?_⟩
  simp only [rg] at hk
  refine hr_pick (lv' := [(0, .ref r), (1, zv k)]) [0, 1] rfl ?_
  refine hr_aln C 0 dX12_isSignHere_0 rfl rfl rfl ?_
  refine hr_gI (lo := -2147483648) (hi := 2147483647) C hr0 TM0 rfl fl_X12_213 dX12_isSignHere_1 rfl (fun b1 b2 => ?_)
  refine hr_ic C dX12_isSignHere_4 rfl ?_
  refine hr_cmp C 24 dX12_isSignHere_5 (by decide) ⟨by omega, by omega⟩ ⟨by omega, by omega⟩ rfl (fun c3 => ?_) (fun c3 => ?_)
  · have c3 : ¬ (vi ws 0 8 : Int) = 5 := c3
    refine hr_ic C dX12_isSignHere_24 rfl ?_
    exact hr_zret C hlocks hr (by first | exact Or.inl rfl | exact Or.inr rfl) dX12_isSignHere_25 ⟨rfl, by first | rw [if_pos ⟨by omega, by omega⟩] | rw [if_neg (by omega)]⟩
  · have c3 : (vi ws 0 8 : Int) = 5 := c3
    refine hr_aln C 0 dX12_isSignHere_8 rfl rfl rfl ?_
    refine hr_aln C 0 dX12_isSignHere_9 rfl rfl rfl ?_
    refine hr_gI (lo := 0) (hi := 1600) C hr0 TM0 rfl fl_X12_206 dX12_isSignHere_10 rfl (fun b4 b5 => ?_)
    refine hr_cV (As := [zv (vi ws 0 6)]) (rest := []) C (h_sign h r (vi ws 0 6) hr0 ⟨by omega, by omega⟩) ⟨by decide, by decide⟩ iV_X12_sign g_X12_209 TM0 hr0 dX12_isSignHere_13 rfl rfl (Nat.le_of_ble_eq_true rfl) rfl ⟨rfl, trivial⟩ (fun w6 rv o7 q8 => ?_)
    obtain ⟨rfl, rfl⟩ := q8
    refine hr_norm (st' := [zv (sgv ws (vi ws 0 6))]) rfl ?_
    have hsg := sgv_b ws (vi ws 0 6)
    refine hr_iln C 1 dX12_isSignHere_16 rfl rfl rfl ?_
    refine hr_cmp C 24 dX12_isSignHere_17 (by decide) ⟨by omega, by omega⟩ ⟨by omega, by omega⟩ rfl (fun c9 => ?_) (fun c9 => ?_)
    · have c9 : ¬ (sgv ws (vi ws 0 6) : Int) = k := c9
      refine hr_ic C dX12_isSignHere_24 rfl ?_
      exact hr_zret C hlocks hr (by first | exact Or.inl rfl | exact Or.inr rfl) dX12_isSignHere_25 ⟨rfl, by first | rw [if_pos ⟨by omega, by omega⟩] | rw [if_neg (by omega)]⟩
    · have c9 : (sgv ws (vi ws 0 6) : Int) = k := c9
      refine hr_ic C dX12_isSignHere_20 rfl ?_
      refine hr_goto C 25 dX12_isSignHere_21 (by decide) ?_
      exact hr_zret C hlocks hr (by first | exact Or.inl rfl | exact Or.inr rfl) dX12_isSignHere_25 ⟨rfl, by first | rw [if_pos ⟨by omega, by omega⟩] | rw [if_neg (by omega)]⟩
