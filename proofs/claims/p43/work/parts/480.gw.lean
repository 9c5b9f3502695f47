def gC (p : Program) (s : State) (m : MethodId) (args : Array Value) (c : Code) (cc : ByteArray) (nL : Nat) (own : String) : Prop := p.tables.exec = Jvm.exec ∧ c.code = cc ∧ c.maxLocals = nL ∧ (∀ w ∈ wsL_law, w.before args s = true) ∧ s.vm.findClass own = some m.cls ∧ True
def GW (p : Program) (l : Launch) (e : Env) (R : Room) (s : State) (m : MethodId) (args : Array Value) (below : List Frame) (meth : Method) (c : Code) (Q : State → Prop) (cc : ByteArray) (nL cl sl : Nat) (pc : Nat) (lv : List (Nat × Value)) (st : List Value) (ws : Heap → List Loc → Prop) : Prop := ∀ (H : Heap) (locs : List Loc) (ls : Array Slot), lv_has ls nL lv → ws H locs → W p l e R s m args below meth c H locs cl sl Q (F0 m pc ls st)
section GWR
variable {l : Launch} {p : Program} {e : Env} {R : Room} {s : State} {m : MethodId} {args : Array Value} {below : List Frame} {meth : Method} {c : Code} {Q : State → Prop} {cc : ByteArray} {nL : Nat} {own : String} {pc pc' : Nat} {lv lv' : List (Nat × Value)} {st : List Value} {ws : Heap → List Loc → Prop} {cl sl : Nat}
theorem gq_ic (C : gC p s m args c cc nL own) {n : Int} (hdg : decode cc pc = .ok (.iconst n, 1)) (hp : pc + 1 = pc') (kk : GW p l e R s m args below meth c Q cc nL cl sl pc' lv (zv n :: st) ws) : GW p l e R s m args below meth c Q cc nL cl sl pc lv st ws := fun H locs ls hl hh => by
  subst hp; exact lv_iconst C.1 C.2.1 hdg rfl (kk H locs ls hl hh)
theorem gq_bi (C : gC p s m args c cc nL own) {n : Int} (hdg : decode cc pc = .ok (.bipush n, 2)) (hn : (Int8.ofInt n).toInt32 = Int32.ofInt n) (hp : pc + 2 = pc') (kk : GW p l e R s m args below meth c Q cc nL cl sl pc' lv (zv n :: st) ws) : GW p l e R s m args below meth c Q cc nL cl sl pc lv st ws := fun H locs ls hl hh => by
  subst hp; exact lv_bipush C.1 C.2.1 hdg hn (kk H locs ls hl hh)
theorem gq_si (C : gC p s m args c cc nL own) {n : Int} (hdg : decode cc pc = .ok (.sipush n, 3)) (hn : (Int16.ofInt n).toInt32 = Int32.ofInt n) (hp : pc + 3 = pc') (kk : GW p l e R s m args below meth c Q cc nL cl sl pc' lv (zv n :: st) ws) : GW p l e R s m args below meth c Q cc nL cl sl pc lv st ws := fun H locs ls hl hh => by
  subst hp; exact lv_sipush C.1 C.2.1 hdg hn (kk H locs ls hl hh)
theorem gq_il (C : gC p s m args c cc nL own) {i : Nat} {z : Int} (k : Nat) (hdg : decode cc pc = .ok (.iload i, 2)) (hk : lv[k]? = some (i, zv z)) (hp : pc + 2 = pc') (kk : GW p l e R s m args below meth c Q cc nL cl sl pc' lv (zv z :: st) ws) : GW p l e R s m args below meth c Q cc nL cl sl pc lv st ws := fun H locs ls hl hh => by
  subst hp; exact lv_iload C.1 C.2.1 hdg (lv_at hl k hk) (kk H locs ls hl hh)
theorem gq_iln (C : gC p s m args c cc nL own) {j : Fin 4} {i : Nat} {z : Int} (k : Nat) (hdg : decode cc pc = .ok (.iload_n j, 1)) (hi : (j : Nat) = i) (hk : lv[k]? = some (i, zv z)) (hp : pc + 1 = pc') (kk : GW p l e R s m args below meth c Q cc nL cl sl pc' lv (zv z :: st) ws) : GW p l e R s m args below meth c Q cc nL cl sl pc lv st ws := fun H locs ls hl hh => by
  subst hp; exact lv_iload_n C.1 C.2.1 hdg hi (lv_at hl k hk) (kk H locs ls hl hh)
theorem gq_al (C : gC p s m args c cc nL own) {i a : Nat} (k : Nat) (hdg : decode cc pc = .ok (.aload i, 2)) (hk : lv[k]? = some (i, .ref a)) (hp : pc + 2 = pc') (kk : GW p l e R s m args below meth c Q cc nL cl sl pc' lv (.ref a :: st) ws) : GW p l e R s m args below meth c Q cc nL cl sl pc lv st ws := fun H locs ls hl hh => by
  subst hp; exact lv_aload C.1 C.2.1 hdg (lv_at hl k hk) (kk H locs ls hl hh)
theorem gq_aln (C : gC p s m args c cc nL own) {j : Fin 4} {i a : Nat} (k : Nat) (hdg : decode cc pc = .ok (.aload_n j, 1)) (hi : (j : Nat) = i) (hk : lv[k]? = some (i, .ref a)) (hp : pc + 1 = pc') (kk : GW p l e R s m args below meth c Q cc nL cl sl pc' lv (.ref a :: st) ws) : GW p l e R s m args below meth c Q cc nL cl sl pc lv st ws := fun H locs ls hl hh => by
  subst hp; exact lv_aload_n C.1 C.2.1 hdg hi (lv_at hl k hk) (kk H locs ls hl hh)
theorem gq_is (C : gC p s m args c cc nL own) {i : Nat} {z : Int} (hdg : decode cc pc = .ok (.istore i, 2)) (hn : i < nL) (hl' : (i, zv z) :: lv.filter (fun q => !(q.1 == i) && !(q.1 + 1 == i && q.2.category == 2)) = lv') (hp : pc + 2 = pc') (kk : GW p l e R s m args below meth c Q cc nL cl sl pc' lv' st ws) : GW p l e R s m args below meth c Q cc nL cl sl pc lv (zv z :: st) ws := fun H locs ls hl hh => by
  subst hp; exact lv_istore C.1 C.2.1 hdg hl hn hl' (fun ls hl => kk H locs ls hl hh)
theorem gq_isn (C : gC p s m args c cc nL own) {j : Fin 4} {i : Nat} {z : Int} (hdg : decode cc pc = .ok (.istore_n j, 1)) (hi : (j : Nat) = i) (hn : i < nL) (hl' : (i, zv z) :: lv.filter (fun q => !(q.1 == i) && !(q.1 + 1 == i && q.2.category == 2)) = lv') (hp : pc + 1 = pc') (kk : GW p l e R s m args below meth c Q cc nL cl sl pc' lv' st ws) : GW p l e R s m args below meth c Q cc nL cl sl pc lv (zv z :: st) ws := fun H locs ls hl hh => by
  subst hp; exact lv_istore_n C.1 C.2.1 hdg hi hl hn hl' (fun ls hl => kk H locs ls hl hh)
theorem gq_inc (C : gC p s m args c cc nL own) {i : Nat} {n z : Int} (k : Nat) (hdg : decode cc pc = .ok (.iinc i n, 3)) (hk : lv[k]? = some (i, zv z)) (hn : i < nL) (hl' : (i, zv (z + n)) :: lv.filter (fun q => !(q.1 == i) && !(q.1 + 1 == i && q.2.category == 2)) = lv') (hp : pc + 3 = pc') (kk : GW p l e R s m args below meth c Q cc nL cl sl pc' lv' st ws) : GW p l e R s m args below meth c Q cc nL cl sl pc lv st ws := fun H locs ls hl hh => by
  subst hp; exact lv_iinc C.1 C.2.1 hdg hl hk (by rw [← Int32.ofInt_add]) hn hl' (fun ls hl => kk H locs ls hl hh)
theorem gq_add (C : gC p s m args c cc nL own) {x y : Int} (hdg : decode cc pc = .ok (.iadd, 1)) (hp : pc + 1 = pc') (kk : GW p l e R s m args below meth c Q cc nL cl sl pc' lv (zv (x + y) :: st) ws) : GW p l e R s m args below meth c Q cc nL cl sl pc lv (zv y :: zv x :: st) ws := fun H locs ls hl hh => by
  subst hp; refine lv_iadd C.1 C.2.1 hdg ?_; rw [← Int32.ofInt_add]; exact kk H locs ls hl hh
theorem gq_sub (C : gC p s m args c cc nL own) {x y : Int} (hdg : decode cc pc = .ok (.isub, 1)) (hp : pc + 1 = pc') (kk : GW p l e R s m args below meth c Q cc nL cl sl pc' lv (zv (x - y) :: st) ws) : GW p l e R s m args below meth c Q cc nL cl sl pc lv (zv y :: zv x :: st) ws := fun H locs ls hl hh => by
  subst hp; refine lv_isub C.1 C.2.1 hdg ?_; rw [← Int32.ofInt_sub]; exact kk H locs ls hl hh
theorem gq_mul (C : gC p s m args c cc nL own) {x y : Int} (hdg : decode cc pc = .ok (.imul, 1)) (hp : pc + 1 = pc') (kk : GW p l e R s m args below meth c Q cc nL cl sl pc' lv (zv (x * y) :: st) ws) : GW p l e R s m args below meth c Q cc nL cl sl pc lv (zv y :: zv x :: st) ws := fun H locs ls hl hh => by
  subst hp; refine lv_imul C.1 C.2.1 hdg ?_; rw [← Int32.ofInt_mul]; exact kk H locs ls hl hh
theorem gq_neg (C : gC p s m args c cc nL own) {x : Int} (hdg : decode cc pc = .ok (.ineg, 1)) (hp : pc + 1 = pc') (kk : GW p l e R s m args below meth c Q cc nL cl sl pc' lv (zv (-x) :: st) ws) : GW p l e R s m args below meth c Q cc nL cl sl pc lv (zv x :: st) ws := fun H locs ls hl hh => by
  subst hp; refine lv_ineg C.1 C.2.1 hdg ?_; rw [← Int32.ofInt_neg]; exact kk H locs ls hl hh
theorem gq_rem (C : gC p s m args c cc nL own) {x y : Int} (hdg : decode cc pc = .ok (.irem, 1)) (hx0 : 0 ≤ x) (hx1 : x ≤ 2147483647) (hy0 : 0 < y) (hy1 : y ≤ 2147483647) (hp : pc + 1 = pc') (kk : GW p l e R s m args below meth c Q cc nL cl sl pc' lv (zv (x % y) :: st) ws) : GW p l e R s m args below meth c Q cc nL cl sl pc lv (zv y :: zv x :: st) ws := fun H locs ls hl hh => by
  subst hp
  have hne : ¬ Int32.ofInt y = 0 := fun h => by have := congrArg Int32.toInt h; rw [zv_i ⟨by omega, hy1⟩] at this; have e0 : (0 : Int32).toInt = 0 := rfl; omega
  refine lv_irem C.1 C.2.1 hdg hne ?_
  have e : Int32.ofInt x - Int32.ofInt x / Int32.ofInt y * Int32.ofInt y = Int32.ofInt (x % y) := by
    rw [← Int32.toInt_inj]
    obtain ⟨n, rfl⟩ := Int.eq_ofNat_of_zero_le hx0
    obtain ⟨d, rfl⟩ := Int.eq_ofNat_of_zero_le (Int.le_of_lt hy0)
    have r := pk_rem (a := n) (d := d) (by omega) (by omega) (by omega)
    have e1 : Int32.ofInt (n : Int) = nI n := rfl
    have e2 : Int32.ofInt (d : Int) = nI d := rfl
    rw [e1, e2, r]
    have hlt : n % d < d := Nat.mod_lt _ (by omega)
    rw [nI_toInt (by omega), ← Int.natCast_emod, zv_i ⟨by omega, by omega⟩]
  rw [e]; exact kk H locs ls hl hh
theorem gq_div (C : gC p s m args c cc nL own) {x y : Int} (hdg : decode cc pc = .ok (.idiv, 1)) (hx0 : 0 ≤ x) (hx1 : x ≤ 2147483647) (hy0 : 0 < y) (hy1 : y ≤ 2147483647) (hp : pc + 1 = pc') (kk : GW p l e R s m args below meth c Q cc nL cl sl pc' lv (zv (x / y) :: st) ws) : GW p l e R s m args below meth c Q cc nL cl sl pc lv (zv y :: zv x :: st) ws := fun H locs ls hl hh => by
  subst hp
  have ey := zv_i (z := y) ⟨by omega, hy1⟩
  have ex := zv_i (z := x) ⟨by omega, hx1⟩
  have hne : ¬ Int32.ofInt y = 0 := fun h => by have := congrArg Int32.toInt h; rw [ey] at this; have e0 : (0 : Int32).toInt = 0 := rfl; omega
  refine lv_idiv C.1 C.2.1 hdg hne ?_
  have e : Int32.ofInt x / Int32.ofInt y = Int32.ofInt (x / y) := by
    rw [← Int32.toInt_inj, Int32.toInt_div, ex, ey, Int.tdiv_eq_ediv_of_nonneg hx0]
    have g1 : 0 ≤ x / y := Int.ediv_nonneg hx0 (by omega)
    have g2 : x / y ≤ x := Int.ediv_le_self _ hx0
    rw [zv_i ⟨by omega, by omega⟩]
    exact fx_bm (by unfold fx_lo32; omega) (by unfold fx_hi32; omega)
  rw [e]; exact kk H locs ls hl hh
theorem gq_cmp (C : gC p s m args c cc nL own) {o : ClassFile.Cond} {x y off : Int} (tgt : Nat) (hdg : decode cc pc = .ok (.if_icmp o off, 3)) (ht : (pc : Int) + off = (tgt : Int)) (hx : rg x) (hy : rg y) (hp : pc + 3 = pc') (kt : cz o x y → GW p l e R s m args below meth c Q cc nL cl sl tgt lv st ws) (kf : cz (fx_ng o) x y → GW p l e R s m args below meth c Q cc nL cl sl pc' lv st ws) : GW p l e R s m args below meth c Q cc nL cl sl pc lv (zv y :: zv x :: st) ws := fun H locs ls hl hh => by
  subst hp; exact fx_icm C.1 C.2.1 hdg ht (fun h => kt (cz_of hx hy h) H locs ls hl hh) (fun h => kf (cz_of hx hy h) H locs ls hl hh)
theorem gq_if (C : gC p s m args c cc nL own) {o : ClassFile.Cond} {x off : Int} (tgt : Nat) (hdg : decode cc pc = .ok (.ifCond o off, 3)) (ht : (pc : Int) + off = (tgt : Int)) (hx : rg x) (hp : pc + 3 = pc') (kt : cz o x 0 → GW p l e R s m args below meth c Q cc nL cl sl tgt lv st ws) (kf : cz (fx_ng o) x 0 → GW p l e R s m args below meth c Q cc nL cl sl pc' lv st ws) : GW p l e R s m args below meth c Q cc nL cl sl pc lv (zv x :: st) ws := fun H locs ls hl hh => by
  subst hp
  have e0 : (0 : Int32) = Int32.ofInt 0 := rfl
  exact fx_ifc C.1 C.2.1 hdg ht (fun h => kt (cz_of hx ⟨by omega, by omega⟩ (by rw [← e0]; exact h)) H locs ls hl hh) (fun h => kf (cz_of hx ⟨by omega, by omega⟩ (by rw [← e0]; exact h)) H locs ls hl hh)
theorem gq_goto (C : gC p s m args c cc nL own) {off : Int} (tgt : Nat) (hdg : decode cc pc = .ok (.goto off, 3)) (ht : (pc : Int) + off = (tgt : Int)) (kk : GW p l e R s m args below meth c Q cc nL cl sl tgt lv st ws) : GW p l e R s m args below meth c Q cc nL cl sl pc lv st ws := fun H locs ls hl hh => lv_goto C.1 C.2.1 hdg ht (kk H locs ls hl hh)
theorem gq_dup (C : gC p s m args c cc nL own) {v : Value} (hdg : decode cc pc = .ok (.dup, 1)) (hv : v.category = 1) (hp : pc + 1 = pc') (kk : GW p l e R s m args below meth c Q cc nL cl sl pc' lv (v :: v :: st) ws) : GW p l e R s m args below meth c Q cc nL cl sl pc lv (v :: st) ws := fun H locs ls hl hh => by
  subst hp; exact lv_dup C.1 C.2.1 hdg hv (kk H locs ls hl hh)
theorem gq_dup2 (C : gC p s m args c cc nL own) {u v : Value} (hdg : decode cc pc = .ok (.dup2, 1)) (hu : u.category = 1) (hv : v.category = 1) (hp : pc + 1 = pc') (kk : GW p l e R s m args below meth c Q cc nL cl sl pc' lv (v :: u :: v :: u :: st) ws) : GW p l e R s m args below meth c Q cc nL cl sl pc lv (v :: u :: st) ws := fun H locs ls hl hh => by
  subst hp; exact lv_dup2_11 C.1 C.2.1 hdg hv hu (kk H locs ls hl hh)
theorem gq_pop (C : gC p s m args c cc nL own) {v : Value} (hdg : decode cc pc = .ok (.pop, 1)) (hv : v.category = 1) (hp : pc + 1 = pc') (kk : GW p l e R s m args below meth c Q cc nL cl sl pc' lv st ws) : GW p l e R s m args below meth c Q cc nL cl sl pc lv (v :: st) ws := fun H locs ls hl hh => by
  subst hp; exact lv_pop C.1 C.2.1 hdg hv (kk H locs ls hl hh)
theorem gq_pick (ps : List Nat) (hs : lv_pick lv ps = lv') (kk : GW p l e R s m args below meth c Q cc nL cl sl pc lv' st ws) : GW p l e R s m args below meth c Q cc nL cl sl pc lv st ws := fun H locs ls hl hh => kk H locs ls (lv_sub hl ps hs) hh
theorem gq_wk (hs : ∀ q ∈ lv', q ∈ lv) (kk : GW p l e R s m args below meth c Q cc nL cl sl pc lv' st ws) : GW p l e R s m args below meth c Q cc nL cl sl pc lv st ws := fun H locs ls hl hh => kk H locs ls ⟨hl.1, hl.2.1, fun q hq => hl.2.2 q (hs q hq)⟩ hh
theorem gq_ldcw (C : gC p s m args c cc nL own) {i : Nat} {n : Int} (hk : fx_k4 wsL_law own (i, n)) (hdg : decode cc pc = .ok (.ldc_w i, 3)) (hp : pc + 3 = pc') (kk : GW p l e R s m args below meth c Q cc nL cl sl pc' lv (zv n :: st) ws) : GW p l e R s m args below meth c Q cc nL cl sl pc lv st ws := fun H locs ls hl hh => by
  subst hp; exact lv_ldcw C.1 C.2.1 C.2.2.2.2.1 (C.2.2.2.1 _ hk) hdg (kk H locs ls hl hh)
theorem gq_ldc (C : gC p s m args c cc nL own) {i : Nat} {n : Int} (hk : fx_k4 wsL_law own (i, n)) (hdg : decode cc pc = .ok (.ldc i, 2)) (hp : pc + 2 = pc') (kk : GW p l e R s m args below meth c Q cc nL cl sl pc' lv (zv n :: st) ws) : GW p l e R s m args below meth c Q cc nL cl sl pc lv st ws := fun H locs ls hl hh => by
  subst hp; exact lv_ldc C.1 C.2.1 C.2.2.2.2.1 (C.2.2.2.1 _ hk) hdg (kk H locs ls hl hh)
theorem gq_norm {st' : List Value} (h : st = st') (kk : GW p l e R s m args below meth c Q cc nL cl sl pc lv st' ws) : GW p l e R s m args below meth c Q cc nL cl sl pc lv st ws := h ▸ kk
theorem gq_wd {cl' sl' : Nat} (h1 : cl ≤ cl') (h2 : sl ≤ sl') (kk : GW p l e R s m args below meth c Q cc nL cl' sl' pc lv st ws) : GW p l e R s m args below meth c Q cc nL cl sl pc lv st ws := fun H locs ls hl hh => W.widen h1 h2 (kk H locs ls hl hh)
theorem gq_st {ws' : Heap → List Loc → Prop} (h : ∀ H locs, ws H locs → ws' H locs) (kk : GW p l e R s m args below meth c Q cc nL cl sl pc lv st ws') : GW p l e R s m args below meth c Q cc nL cl sl pc lv st ws := fun H locs ls hl hh => kk H locs ls hl (h H locs hh)
theorem gq_andk (C : gC p s m args c cc nL own) {x : Int} (hdg : decode cc pc = .ok (.iand, 1)) (hp : pc + 1 = pc') (kk : ∀ z, 0 ≤ z → z ≤ 63 → GW p l e R s m args below meth c Q cc nL cl sl pc' lv (zv z :: st) ws) : GW p l e R s m args below meth c Q cc nL cl sl pc lv (zv 63 :: zv x :: st) ws := fun H locs ls hl hh => by
  subst hp
  refine lv_iand C.1 C.2.1 hdg ?_
  have e : (63 : Int32).toInt = 63 := by decide +kernel
  have h := fx_and (x := Int32.ofInt x) (y := 63) (by omega)
  rw [zv_of]
  exact kk _ h.1 (by omega) H locs ls hl hh
end GWR
