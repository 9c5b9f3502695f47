-- by hand: more rows
section HW4
variable {l : Launch} {E : (Nat → Prop) → State → Prop} {ad : List Nat} {D : va_G} {cy : Nat → ClassId} {A : Nat → Prop} {H0 : Heap} {p : Program} {e : Env} {R : Room} {s : State} {m : MethodId} {args : Array Value} {below : List Frame} {meth : Method} {c : Code} {Q : State → Prop} {cc : ByteArray} {nL : Nat} {own : String} {pc pc' : Nat} {lv lv' : List (Nat × Value)} {st : List Value} {ws : va_W}
theorem hr_ldcw (C : hC l E ad D cy A H0 p e R s m args below meth c Q cc nL own) {i : Nat} {n : Int} (hk : fx_k4 wsL_law own (i, n)) (hdg : decode cc pc = .ok (.ldc_w i, 3)) (hp : pc + 3 = pc') (kk : HW l E ad D cy A H0 p e R s m args below meth c Q cc nL own pc' lv (zv n :: st) ws) : HW l E ad D cy A H0 p e R s m args below meth c Q cc nL own pc lv st ws := fun H locs ls hl hh => by
  subst hp; exact lv_ldcw C.1 C.2.1 C.2.2.2.2.1 (C.2.2.2.1 _ hk) hdg (kk H locs ls hl hh)
theorem hr_ldc (C : hC l E ad D cy A H0 p e R s m args below meth c Q cc nL own) {i : Nat} {n : Int} (hk : fx_k4 wsL_law own (i, n)) (hdg : decode cc pc = .ok (.ldc i, 2)) (hp : pc + 2 = pc') (kk : HW l E ad D cy A H0 p e R s m args below meth c Q cc nL own pc' lv (zv n :: st) ws) : HW l E ad D cy A H0 p e R s m args below meth c Q cc nL own pc lv st ws := fun H locs ls hl hh => by
  subst hp; exact lv_ldc C.1 C.2.1 C.2.2.2.2.1 (C.2.2.2.1 _ hk) hdg (kk H locs ls hl hh)
theorem hr_and (C : hC l E ad D cy A H0 p e R s m args below meth c Q cc nL own) {x y : Int} (hdg : decode cc pc = .ok (.iand, 1)) (hx0 : 0 ≤ x) (hx1 : x ≤ 2147483647) (hy0 : 0 ≤ y) (hy1 : y ≤ 2147483647) (hp : pc + 1 = pc') (kk : HW l E ad D cy A H0 p e R s m args below meth c Q cc nL own pc' lv (zv ((x.toNat &&& y.toNat : Nat) : Int) :: st) ws) : HW l E ad D cy A H0 p e R s m args below meth c Q cc nL own pc lv (zv y :: zv x :: st) ws := fun H locs ls hl hh => by
  subst hp
  refine lv_iand C.1 C.2.1 hdg ?_
  have ex := zv_i (z := x) ⟨by omega, hx1⟩
  have ey := zv_i (z := y) ⟨by omega, hy1⟩
  obtain ⟨u1, u2⟩ := fx_nat (y := Int32.ofInt x) (by omega)
  obtain ⟨v1, v2⟩ := fx_nat (y := Int32.ofInt y) (by omega)
  have e : (Int32.ofInt x &&& Int32.ofInt y).toBitVec.toNat = (Int32.ofInt x).toBitVec.toNat &&& (Int32.ofInt y).toBitVec.toNat := by
    rw [Int32.toBitVec_and, BitVec.toNat_and]
  have hle : (Int32.ofInt x &&& Int32.ofInt y).toBitVec.toNat ≤ (Int32.ofInt y).toBitVec.toNat := by rw [e]; exact Nat.and_le_right
  have e1 : x.toNat = (Int32.ofInt x).toBitVec.toNat := by omega
  have e2 : y.toNat = (Int32.ofInt y).toBitVec.toNat := by omega
  have e3 : Int32.ofInt x &&& Int32.ofInt y = Int32.ofInt ((x.toNat &&& y.toNat : Nat) : Int) := by
    rw [← Int32.toInt_inj, fx_ofnat (by omega), e, e1, e2]
    rw [zv_i ⟨by omega, by rw [e] at hle; omega⟩]
  rw [e3]
  exact kk H locs ls hl hh
theorem hr_remg (C : hC l E ad D cy A H0 p e R s m args below meth c Q cc nL own) {x y : Int} (hdg : decode cc pc = .ok (.irem, 1)) (hx : rg x) (hy0 : 0 < y) (hy1 : y ≤ 2147483647) (hp : pc + 1 = pc') (kk : ∀ r, -y < r → r < y → HW l E ad D cy A H0 p e R s m args below meth c Q cc nL own pc' lv (zv r :: st) ws) : HW l E ad D cy A H0 p e R s m args below meth c Q cc nL own pc lv (zv y :: zv x :: st) ws := fun H locs ls hl hh => by
  subst hp
  have ey := zv_i (z := y) ⟨by omega, hy1⟩
  have ex := zv_i hx
  have hx' := hx
  unfold rg at hx'
  have hne : ¬ Int32.ofInt y = 0 := fun h => by have := congrArg Int32.toInt h; rw [ey] at this; have e0 : (0 : Int32).toInt = 0 := rfl; omega
  refine lv_irem C.1 C.2.1 hdg hne ?_
  have q1 := Int.tmod_lt_of_pos x hy0
  have q2 : -y < x.tmod y := by
    have h1 := Int.natAbs_tmod x y
    have h2 := Nat.mod_lt x.natAbs (show 0 < y.natAbs by omega)
    omega
  have ed : (Int32.ofInt x / Int32.ofInt y).toInt = x.tdiv y := by
    rw [Int32.toInt_div, ex, ey]
    have h1 : (x.tdiv y).natAbs ≤ x.natAbs := by rw [Int.natAbs_tdiv]; exact Nat.div_le_self _ _
    by_cases hx0 : 0 ≤ x
    · have g1 : 0 ≤ x.tdiv y := Int.tdiv_nonneg hx0 (by omega)
      exact fx_bm (by unfold fx_lo32; omega) (by unfold fx_hi32; omega)
    · have g0 : 0 ≤ (-x).tdiv y := Int.tdiv_nonneg (by omega) (by omega)
      have g1 : x.tdiv y = -((-x).tdiv y) := by rw [Int.neg_tdiv, Int.neg_neg]
      exact fx_bm (by unfold fx_lo32; omega) (by unfold fx_hi32; omega)
  have e : Int32.ofInt x - Int32.ofInt x / Int32.ofInt y * Int32.ofInt y = Int32.ofInt (x.tmod y) := by
    rw [← Int32.toInt_inj, Int32.toInt_sub, Int32.toInt_mul, ex, ey, ed]
    have h3 : x - x.tdiv y * y = x.tmod y := by have := Int.mul_tdiv_add_tmod x y; rw [Int.mul_comm] at this; omega
    rw [Int.sub_bmod_bmod, h3, zv_i ⟨by omega, by omega⟩]
    exact fx_bm (by unfold fx_lo32; omega) (by unfold fx_hi32; omega)
  rw [e]
  exact kk _ q2 q1 H locs ls hl hh
theorem hr_norm {st' : List Value} (h : st = st') (kk : HW l E ad D cy A H0 p e R s m args below meth c Q cc nL own pc lv st' ws) : HW l E ad D cy A H0 p e R s m args below meth c Q cc nL own pc lv st ws := h ▸ kk
end HW4
theorem zv_norm (z : Int) : ∃ z', rg z' ∧ zv z = zv z' ∧ (rg z → z' = z) := by
  have r := fx_r32 (Int32.ofInt z)
  unfold fx_lo32 fx_hi32 at r
  exact ⟨(Int32.ofInt z).toInt, r, by unfold zv; rw [Int32.ofInt_toInt], fun h => zv_i h⟩
theorem ok_top {gs ad : List Nat} (z : Int) : fx_ok gs ad (.inl (-2147483648, 2147483647)) (zv z) := by
  have r := fx_r32 (Int32.ofInt z)
  unfold fx_lo32 fx_hi32 at r
  exact ⟨_, rfl, r⟩
theorem fx_hM2 {l : Launch} {E : (Nat → Prop) → State → Prop} {ad : List Nat} {D : va_G} {cy : Nat → ClassId} {y : MethodName} {bytes : ByteArray} {maxL : Nat} {ret : Option FieldType} {rm : Room} {c0 : fx_C} {I : va_W → Prop} (h : ∀ (av : List Value) (ws : va_W) (rt : List Value), fx_ty (gsM, TM, cy, fun _ => True) ad c0.1 av → fx_fs (gsM, TM, cy, fun _ => True) ad ws av c0.2.1 rt → fx_wo (gsM, TM, cy, fun _ => True) ad ws → I ws → ∃ (pre : List Value → va_W → Prop) (post : List Value → va_W → Option Value → va_W → Prop), hM l y bytes maxL ret rm E ad D cy pre post ∧ pre av ws ∧ ∀ (rv : Option Value) (ws1 : va_W), fx_wo (gsM, TM, cy, fun _ => True) ad ws1 → post av ws rv ws1 → I ws1 ∧ fx_sm (gsM, TM, cy, fun _ => True) c0.2.2.2 ws ws1 ∧ ∃ po ∈ c0.2.2.1, fx_po (gsM, TM, cy, fun _ => True) ad po av ws1 rv) : fx_Met l y (Cond.code y bytes maxL ret :: wsL_law) rm E (gsM, TM, cy, I) ad D classes c0 := by
  intro av ws sz rt h1 h2 hwo hI hD
  obtain ⟨pre, post, hm, hp, hpost⟩ := h av ws rt h1 (fx_fs_I _ _ _ h2) hwo hI
  refine fx_mono (hm av ws sz hwo hD hp) (fun _ _ h => h) (fun a s oc t _ hq => ?_)
  obtain ⟨⟨ws1, rv, e1, p1, p2, p3⟩, p5⟩ := hq
  obtain ⟨q1, q2, po, q3, q4⟩ := hpost rv ws1 p2 p3
  exact ⟨⟨ws1, rv, e1, p1, p2, q1, q2, po, q3, q4.1, q4.2.1, q4.2.2.elim fun rt2 h2 => ⟨rt2, fx_fs_I _ _ _ h2⟩⟩, p5⟩
def isI (t : fx_T) : Bool := match t with
  | .inl _ => true
  | _ => false
theorem hpp {pat : List fx_T} {j j' : Nat} {y : Int} (hall : pat.all isI = true) (h : ∀ lo hi, pat[j' % pat.length]? = some (.inl (lo, hi)) → lo ≤ y ∧ y ≤ hi) (hj : j % pat.length = j' % pat.length) : ∀ t, pat[j % pat.length]? = some t → ∃ lo hi, t = .inl (lo, hi) ∧ lo ≤ y ∧ y ≤ hi := by
  intro t ht
  have h1 := List.all_eq_true.mp hall t (List.mem_of_getElem? ht)
  rcases t with i | i
  · obtain ⟨lo, hi⟩ := i
    exact ⟨lo, hi, rfl, h lo hi (by rw [← hj]; exact ht)⟩
  · cases h1
theorem ty_at {Y : fx_Y} {ad : List Nat} {ts : List fx_T} {av : List Value} {lo hi z : Int} (h : fx_ty Y ad ts av) (j : Nat) (ht : ts[j]? = some (.inl (lo, hi))) (hv : av[j]? = some (zv z)) (hz : rg z) : lo ≤ z ∧ z ≤ hi := by
  obtain ⟨v, v1, x, rfl, x1, x2⟩ := h.2 j _ ht
  rw [hv] at v1
  have e : x = Int32.ofInt z := by unfold zv at v1; simpa using v1.symm
  rw [e, zv_i hz] at x1 x2
  exact ⟨x1, x2⟩
