-- by hand: numbers as Int, worlds of the reference, a point of the machine
def zv (z : Int) : Value := .int (Int32.ofInt z)
def rg (z : Int) : Prop := -2147483648 ≤ z ∧ z ≤ 2147483647
theorem zv_i {z : Int} (h : rg z) : (Int32.ofInt z).toInt = z := fx_i32 (by unfold fx_lo32; exact h.1) (by unfold fx_hi32; exact h.2)
theorem zv_of (x : Int32) : Value.int x = zv x.toInt := by unfold zv; rw [Int32.ofInt_toInt]
theorem zv_n {z : Int} (h0 : 0 ≤ z) (h1 : z ≤ 2147483647) : (Int32.ofInt z).toNatClampNeg = z.toNat := by
  rw [fx_cln, zv_i ⟨by omega, h1⟩]
def hC (l : Launch) (E : (Nat → Prop) → State → Prop) (ad : List Nat) (D : va_G) (cy : Nat → ClassId) (A : Nat → Prop) (H0 : Heap) (p : Program) (e : Env) (R : Room) (s : State) (m : MethodId) (args : Array Value) (below : List Frame) (meth : Method) (c : Code) (Q : State → Prop) (cc : ByteArray) (nL : Nat) (own : String) : Prop := p.tables.exec = Jvm.exec ∧ c.code = cc ∧ c.maxLocals = nL ∧ (∀ w ∈ wsL_law, w.before args s = true) ∧ s.vm.findClass own = some m.cls ∧ fx_env E D classes (tys cy) nestW ∧ E A s ∧ H0 = s.heap ∧ ∀ q, H0.size ≤ q → A q
def hP_ (ad : List Nat) (D : va_G) (cy : Nat → ClassId) (A : Nat → Prop) (H0 : Heap) (ws : va_W) (H : Heap) (locs : List Loc) : Prop := fx_wo (gsM, TM, cy, fun _ => True) ad ws ∧ va_P D classes ws H ∧ va_D A ws ∧ va_S A H0 H locs
def HW (l : Launch) (E : (Nat → Prop) → State → Prop) (ad : List Nat) (D : va_G) (cy : Nat → ClassId) (A : Nat → Prop) (H0 : Heap) (p : Program) (e : Env) (R : Room) (s : State) (m : MethodId) (args : Array Value) (below : List Frame) (meth : Method) (c : Code) (Q : State → Prop) (cc : ByteArray) (nL : Nat) (own : String) (pc : Nat) (lv : List (Nat × Value)) (st : List Value) (ws : va_W) : Prop := ∀ (H : Heap) (locs : List Loc) (ls : Array Slot), lv_has ls nL lv → hP_ ad D cy A H0 ws H locs → W p l e R s m args below meth c H locs 0 0 Q (F0 m pc ls st)
def cz (o : ClassFile.Cond) (a b : Int) : Prop := match o with
  | .lt => a < b
  | .gt => b < a
  | .ge => b ≤ a
  | .le => a ≤ b
  | .eq => a = b
  | .ne => ¬ a = b
theorem cz_of {o : ClassFile.Cond} {a b : Int} (ha : rg a) (hb : rg b) (h : fx_ch o (Int32.ofInt a) (Int32.ofInt b)) : cz o a b := by
  have e1 := zv_i ha; have e2 := zv_i hb
  cases o <;> simp only [fx_ch, cz] at h ⊢
  · rw [← Int32.toInt_inj, e1, e2] at h; exact h
  · rw [← Int32.toInt_inj, e1, e2] at h; exact h
  · rw [e1, e2] at h; exact h
  · rw [e1, e2] at h; exact h
  · rw [e1, e2] at h; exact h
  · rw [e1, e2] at h; exact h
theorem tm_gs {k g : Nat} (h : gsM[k]? = some g) : k = g := by
  have hl := (List.getElem?_eq_some_iff.mp h).1
  have key : ∀ j, j < gsM.length → gsM[j]? = some j := by decide +kernel
  rw [key k hl] at h
  exact Option.some.inj h
theorem tm_cell {cy : Nat → ClassId} {ad : List Nat} {ws : va_W} {g a : Nat} (hw : fx_wo (gsM, TM, cy, fun _ => True) ad ws) (ha : ad[g]? = some a) : ∃ el, ws[g]? = some (a, el) := by
  have h := hw.1
  rw [← h, List.getElem?_map] at ha
  cases hx : ws[g]? with
  | none => rw [hx] at ha; cases ha
  | some q => rw [hx] at ha; obtain ⟨a', el⟩ := q; cases ha; exact ⟨el, rfl⟩
theorem tm_ok {cy : Nat → ClassId} {ad : List Nat} {ws : va_W} {g a : Nat} {G : fx_G} (hw : fx_wo (gsM, TM, cy, fun _ => True) ad ws) (ha : ad[g]? = some a) (hT : TM[g]? = some G) : ∃ el, ws[g]? = some (a, el) ∧ fx_okE (gsM, TM, cy, fun _ => True) ad G el ∧ gsM[g]? = some g := by
  obtain ⟨el, he⟩ := tm_cell hw ha
  obtain ⟨g', G', h1, h2, h3⟩ := hw.2 g a el he
  have e := tm_gs h1
  subst e
  have h2' : TM[g]? = some G' := h2
  rw [hT] at h2'
  cases h2'
  exact ⟨el, he, h3, h1⟩
theorem tm_obj {cy : Nat → ClassId} {ad : List Nat} {ws : va_W} {a : Nat} {ts : List fx_T} (hw : fx_wo (gsM, TM, cy, fun _ => True) ad ws) (ha : ad[0]? = some a) (hT : TM[0]? = some (.inl (12, ts))) : ∃ vs, ws[0]? = some (a, .inr (12, vs)) ∧ vs.length = ts.length ∧ (∀ (i : Nat) (t : fx_T), ts[i]? = some t → ∃ v, vs[i]? = some v ∧ fx_ok gsM ad t v) ∧ gsM[0]? = some 0 := by
  obtain ⟨el, h1, h2, h3⟩ := tm_ok hw ha hT
  obtain ⟨vs, rfl, h4, h5⟩ := fx_obj h2
  exact ⟨vs, h1, h4, h5, h3⟩
theorem tm_arr {cy : Nat → ClassId} {ad : List Nat} {ws : va_W} {g a t0 n : Nat} {pat : List fx_T} (hw : fx_wo (gsM, TM, cy, fun _ => True) ad ws) (ha : ad[g]? = some a) (hT : TM[g]? = some (.inr (t0, n, pat))) : ∃ x, ws[g]? = some (a, .inl (cy t0, n, x)) ∧ fx_sh t0 x ∧ (∀ (j : Nat) (t : fx_T), j < n → pat[j % pat.length]? = some t → fx_ok gsM ad t (fx_el x j)) ∧ gsM[g]? = some g := by
  obtain ⟨el, h1, h2, h3⟩ := tm_ok hw ha hT
  obtain ⟨x, rfl, h4, h5⟩ := fx_arr h2
  exact ⟨x, h1, h4, h5, h3⟩
theorem vi_f {ws : va_W} {g a t j : Nat} {vs : List Value} {x : Int32} (h : ws[g]? = some (a, .inr (t, vs))) (hv : vs[j]? = some (.int x)) : vi ws g j = x.toInt := by
  unfold vi; rw [h]; simp only [hv]
theorem vi_a {ws : va_W} {g a n j : Nat} {cA : ClassId} {f : Nat → Int32} (h : ws[g]? = some (a, .inl (cA, n, .inl f))) : vi ws g j = (f j).toInt := by
  unfold vi; rw [h]
theorem vi_setf {ws : va_W} {a t i : Nat} {vs : List Value} {z : Int} (hz : rg z) (h : ws[0]? = some (a, .inr (t, vs))) (hi : i < vs.length) : ∀ g j, vi (ws.set 0 (a, .inr (t, vs.set i (zv z)))) g j = if g = 0 ∧ j = i then z else vi ws g j := by
  intro g j
  have hl := (List.getElem?_eq_some_iff.mp h).1
  unfold vi
  by_cases hg : g = 0
  · subst hg
    rw [List.getElem?_set_self hl, h]
    by_cases hj : j = i
    · subst hj
      simp only [List.getElem?_set_self hi, zv, and_self, if_true]
      exact zv_i hz
    · simp only [List.getElem?_set_ne (fun q => hj q.symm), hj, and_false, if_false]
  · rw [List.getElem?_set_ne (fun q => hg q.symm)]
    simp only [hg, false_and, if_false]
theorem vi_seta {ws : va_W} {a n g0 i : Nat} {cA : ClassId} {f : Nat → Int32} {z : Int} (hz : rg z) (h : ws[g0]? = some (a, .inl (cA, n, .inl f))) : ∀ g j, vi (ws.set g0 (a, .inl (cA, n, .inl (upd f i (Int32.ofInt z))))) g j = if g = g0 ∧ j = i then z else vi ws g j := by
  intro g j
  have hl := (List.getElem?_eq_some_iff.mp h).1
  unfold vi
  by_cases hg : g = g0
  · subst hg
    rw [List.getElem?_set_self hl, h]
    simp only [true_and, upd]
    by_cases hj : j = i
    · simp only [hj, if_true]; exact zv_i hz
    · simp only [hj, if_false]
  · rw [List.getElem?_set_ne (fun q => hg q.symm)]
    simp only [hg, false_and, if_false]
theorem sm_a {cy : Nat → ClassId} {ad : List Nat} {md : List (Nat × Nat)} {w w' : va_W} {g j : Nat} {G : Nat × Nat × List fx_T} (hw : fx_wo (gsM, TM, cy, fun _ => True) ad w) (hw' : fx_wo (gsM, TM, cy, fun _ => True) ad w') (hs : fx_sm (gsM, TM, cy, fun _ => True) md w w') (hT : TM[g]? = some (.inr G)) (hm : (1000, g) ∉ md) : vi w' g j = vi w g j := by
  cases ha : ad[g]? with
  | none =>
    have e1 : w[g]? = none := by have := hw.1; rw [← this, List.getElem?_map] at ha; cases h : w[g]? with
      | none => rfl
      | some q => rw [h] at ha; cases ha
    have e2 : w'[g]? = none := by have := hw'.1; rw [← this, List.getElem?_map] at ha; cases h : w'[g]? with
      | none => rfl
      | some q => rw [h] at ha; cases ha
    unfold vi; rw [e1, e2]
  | some a =>
    obtain ⟨x, h1, -, -, h4⟩ := tm_arr (t0 := G.1) (n := G.2.1) (pat := G.2.2) hw ha hT
    have := hs.2 g a g _ h1 h4 hm
    unfold vi; rw [this, h1]
theorem sm_f {cy : Nat → ClassId} {ad : List Nat} {md : List (Nat × Nat)} {w w' : va_W} {j : Nat} (hw : fx_wo (gsM, TM, cy, fun _ => True) ad w) (hw' : fx_wo (gsM, TM, cy, fun _ => True) ad w') (hs : fx_sm (gsM, TM, cy, fun _ => True) md w w') (hm : (12, j) ∉ md) : vi w' 0 j = vi w 0 j := by
  cases ha : ad[0]? with
  | none =>
    have e1 : w[0]? = none := by have := hw.1; rw [← this, List.getElem?_map] at ha; cases h : w[0]? with
      | none => rfl
      | some q => rw [h] at ha; cases ha
    have e2 : w'[0]? = none := by have := hw'.1; rw [← this, List.getElem?_map] at ha; cases h : w'[0]? with
      | none => rfl
      | some q => rw [h] at ha; cases ha
    unfold vi; rw [e1, e2]
  | some a =>
    obtain ⟨vs, h1, -, -, -⟩ := tm_obj hw ha rfl
    obtain ⟨vs', h2, h3⟩ := hs.1 0 a 12 vs h1
    unfold vi; rw [h2, h1]; simp only [h3 j hm]
section HW
variable {l : Launch} {E : (Nat → Prop) → State → Prop} {ad : List Nat} {D : va_G} {cy : Nat → ClassId} {A : Nat → Prop} {H0 : Heap} {p : Program} {e : Env} {R : Room} {s : State} {m : MethodId} {args : Array Value} {below : List Frame} {meth : Method} {c : Code} {Q : State → Prop} {cc : ByteArray} {nL : Nat} {own : String} {pc pc' : Nat} {lv lv' : List (Nat × Value)} {st : List Value} {ws : va_W}
theorem hr_ic (C : hC l E ad D cy A H0 p e R s m args below meth c Q cc nL own) {n : Int} (hdg : decode cc pc = .ok (.iconst n, 1)) (hp : pc + 1 = pc') (kk : HW l E ad D cy A H0 p e R s m args below meth c Q cc nL own pc' lv (zv n :: st) ws) : HW l E ad D cy A H0 p e R s m args below meth c Q cc nL own pc lv st ws := fun H locs ls hl hh => by
  subst hp; exact lv_iconst C.1 C.2.1 hdg rfl (kk H locs ls hl hh)
theorem hr_bi (C : hC l E ad D cy A H0 p e R s m args below meth c Q cc nL own) {n : Int} (hdg : decode cc pc = .ok (.bipush n, 2)) (hn : (Int8.ofInt n).toInt32 = Int32.ofInt n) (hp : pc + 2 = pc') (kk : HW l E ad D cy A H0 p e R s m args below meth c Q cc nL own pc' lv (zv n :: st) ws) : HW l E ad D cy A H0 p e R s m args below meth c Q cc nL own pc lv st ws := fun H locs ls hl hh => by
  subst hp; exact lv_bipush C.1 C.2.1 hdg hn (kk H locs ls hl hh)
theorem hr_si (C : hC l E ad D cy A H0 p e R s m args below meth c Q cc nL own) {n : Int} (hdg : decode cc pc = .ok (.sipush n, 3)) (hn : (Int16.ofInt n).toInt32 = Int32.ofInt n) (hp : pc + 3 = pc') (kk : HW l E ad D cy A H0 p e R s m args below meth c Q cc nL own pc' lv (zv n :: st) ws) : HW l E ad D cy A H0 p e R s m args below meth c Q cc nL own pc lv st ws := fun H locs ls hl hh => by
  subst hp; exact lv_sipush C.1 C.2.1 hdg hn (kk H locs ls hl hh)
theorem hr_il (C : hC l E ad D cy A H0 p e R s m args below meth c Q cc nL own) {i : Nat} {z : Int} (k : Nat) (hdg : decode cc pc = .ok (.iload i, 2)) (hk : lv[k]? = some (i, zv z)) (hp : pc + 2 = pc') (kk : HW l E ad D cy A H0 p e R s m args below meth c Q cc nL own pc' lv (zv z :: st) ws) : HW l E ad D cy A H0 p e R s m args below meth c Q cc nL own pc lv st ws := fun H locs ls hl hh => by
  subst hp; exact lv_iload C.1 C.2.1 hdg (lv_at hl k hk) (kk H locs ls hl hh)
theorem hr_iln (C : hC l E ad D cy A H0 p e R s m args below meth c Q cc nL own) {j : Fin 4} {i : Nat} {z : Int} (k : Nat) (hdg : decode cc pc = .ok (.iload_n j, 1)) (hi : (j : Nat) = i) (hk : lv[k]? = some (i, zv z)) (hp : pc + 1 = pc') (kk : HW l E ad D cy A H0 p e R s m args below meth c Q cc nL own pc' lv (zv z :: st) ws) : HW l E ad D cy A H0 p e R s m args below meth c Q cc nL own pc lv st ws := fun H locs ls hl hh => by
  subst hp; exact lv_iload_n C.1 C.2.1 hdg hi (lv_at hl k hk) (kk H locs ls hl hh)
theorem hr_al (C : hC l E ad D cy A H0 p e R s m args below meth c Q cc nL own) {i a : Nat} (k : Nat) (hdg : decode cc pc = .ok (.aload i, 2)) (hk : lv[k]? = some (i, .ref a)) (hp : pc + 2 = pc') (kk : HW l E ad D cy A H0 p e R s m args below meth c Q cc nL own pc' lv (.ref a :: st) ws) : HW l E ad D cy A H0 p e R s m args below meth c Q cc nL own pc lv st ws := fun H locs ls hl hh => by
  subst hp; exact lv_aload C.1 C.2.1 hdg (lv_at hl k hk) (kk H locs ls hl hh)
theorem hr_aln (C : hC l E ad D cy A H0 p e R s m args below meth c Q cc nL own) {j : Fin 4} {i a : Nat} (k : Nat) (hdg : decode cc pc = .ok (.aload_n j, 1)) (hi : (j : Nat) = i) (hk : lv[k]? = some (i, .ref a)) (hp : pc + 1 = pc') (kk : HW l E ad D cy A H0 p e R s m args below meth c Q cc nL own pc' lv (.ref a :: st) ws) : HW l E ad D cy A H0 p e R s m args below meth c Q cc nL own pc lv st ws := fun H locs ls hl hh => by
  subst hp; exact lv_aload_n C.1 C.2.1 hdg hi (lv_at hl k hk) (kk H locs ls hl hh)
theorem hr_is (C : hC l E ad D cy A H0 p e R s m args below meth c Q cc nL own) {i : Nat} {z : Int} (hdg : decode cc pc = .ok (.istore i, 2)) (hn : i < nL) (hl' : (i, zv z) :: lv.filter (fun q => !(q.1 == i) && !(q.1 + 1 == i && q.2.category == 2)) = lv') (hp : pc + 2 = pc') (kk : HW l E ad D cy A H0 p e R s m args below meth c Q cc nL own pc' lv' st ws) : HW l E ad D cy A H0 p e R s m args below meth c Q cc nL own pc lv (zv z :: st) ws := fun H locs ls hl hh => by
  subst hp; exact lv_istore C.1 C.2.1 hdg hl hn hl' (fun ls hl => kk H locs ls hl hh)
theorem hr_isn (C : hC l E ad D cy A H0 p e R s m args below meth c Q cc nL own) {j : Fin 4} {i : Nat} {z : Int} (hdg : decode cc pc = .ok (.istore_n j, 1)) (hi : (j : Nat) = i) (hn : i < nL) (hl' : (i, zv z) :: lv.filter (fun q => !(q.1 == i) && !(q.1 + 1 == i && q.2.category == 2)) = lv') (hp : pc + 1 = pc') (kk : HW l E ad D cy A H0 p e R s m args below meth c Q cc nL own pc' lv' st ws) : HW l E ad D cy A H0 p e R s m args below meth c Q cc nL own pc lv (zv z :: st) ws := fun H locs ls hl hh => by
  subst hp; exact lv_istore_n C.1 C.2.1 hdg hi hl hn hl' (fun ls hl => kk H locs ls hl hh)
theorem hr_inc (C : hC l E ad D cy A H0 p e R s m args below meth c Q cc nL own) {i : Nat} {n z : Int} (k : Nat) (hdg : decode cc pc = .ok (.iinc i n, 3)) (hk : lv[k]? = some (i, zv z)) (hn : i < nL) (hl' : (i, zv (z + n)) :: lv.filter (fun q => !(q.1 == i) && !(q.1 + 1 == i && q.2.category == 2)) = lv') (hp : pc + 3 = pc') (kk : HW l E ad D cy A H0 p e R s m args below meth c Q cc nL own pc' lv' st ws) : HW l E ad D cy A H0 p e R s m args below meth c Q cc nL own pc lv st ws := fun H locs ls hl hh => by
  subst hp; exact lv_iinc C.1 C.2.1 hdg hl hk (by rw [← Int32.ofInt_add]) hn hl' (fun ls hl => kk H locs ls hl hh)
theorem hr_add (C : hC l E ad D cy A H0 p e R s m args below meth c Q cc nL own) {x y : Int} (hdg : decode cc pc = .ok (.iadd, 1)) (hp : pc + 1 = pc') (kk : HW l E ad D cy A H0 p e R s m args below meth c Q cc nL own pc' lv (zv (x + y) :: st) ws) : HW l E ad D cy A H0 p e R s m args below meth c Q cc nL own pc lv (zv y :: zv x :: st) ws := fun H locs ls hl hh => by
  subst hp; refine lv_iadd C.1 C.2.1 hdg ?_; rw [← Int32.ofInt_add]; exact kk H locs ls hl hh
theorem hr_sub (C : hC l E ad D cy A H0 p e R s m args below meth c Q cc nL own) {x y : Int} (hdg : decode cc pc = .ok (.isub, 1)) (hp : pc + 1 = pc') (kk : HW l E ad D cy A H0 p e R s m args below meth c Q cc nL own pc' lv (zv (x - y) :: st) ws) : HW l E ad D cy A H0 p e R s m args below meth c Q cc nL own pc lv (zv y :: zv x :: st) ws := fun H locs ls hl hh => by
  subst hp; refine lv_isub C.1 C.2.1 hdg ?_; rw [← Int32.ofInt_sub]; exact kk H locs ls hl hh
theorem hr_mul (C : hC l E ad D cy A H0 p e R s m args below meth c Q cc nL own) {x y : Int} (hdg : decode cc pc = .ok (.imul, 1)) (hp : pc + 1 = pc') (kk : HW l E ad D cy A H0 p e R s m args below meth c Q cc nL own pc' lv (zv (x * y) :: st) ws) : HW l E ad D cy A H0 p e R s m args below meth c Q cc nL own pc lv (zv y :: zv x :: st) ws := fun H locs ls hl hh => by
  subst hp; refine lv_imul C.1 C.2.1 hdg ?_; rw [← Int32.ofInt_mul]; exact kk H locs ls hl hh
theorem hr_neg (C : hC l E ad D cy A H0 p e R s m args below meth c Q cc nL own) {x : Int} (hdg : decode cc pc = .ok (.ineg, 1)) (hp : pc + 1 = pc') (kk : HW l E ad D cy A H0 p e R s m args below meth c Q cc nL own pc' lv (zv (-x) :: st) ws) : HW l E ad D cy A H0 p e R s m args below meth c Q cc nL own pc lv (zv x :: st) ws := fun H locs ls hl hh => by
  subst hp; refine lv_ineg C.1 C.2.1 hdg ?_; rw [← Int32.ofInt_neg]; exact kk H locs ls hl hh
theorem hr_rem (C : hC l E ad D cy A H0 p e R s m args below meth c Q cc nL own) {x y : Int} (hdg : decode cc pc = .ok (.irem, 1)) (hx0 : 0 ≤ x) (hx1 : x ≤ 2147483647) (hy0 : 0 < y) (hy1 : y ≤ 2147483647) (hp : pc + 1 = pc') (kk : HW l E ad D cy A H0 p e R s m args below meth c Q cc nL own pc' lv (zv (x % y) :: st) ws) : HW l E ad D cy A H0 p e R s m args below meth c Q cc nL own pc lv (zv y :: zv x :: st) ws := fun H locs ls hl hh => by
  subst hp
  have hne : ¬ Int32.ofInt y = 0 := fun h => by have := congrArg Int32.toInt h; rw [zv_i ⟨by omega, hy1⟩] at this; have e0 : (0 : Int32).toInt = 0 := rfl; omega
  refine lv_irem C.1 C.2.1 hdg hne ?_
  have e : Int32.ofInt x - Int32.ofInt x / Int32.ofInt y * Int32.ofInt y = Int32.ofInt (x % y) := by
    rw [← Int32.toInt_inj]
    obtain ⟨n, rfl⟩ := Int.eq_ofNat_of_zero_le hx0
    obtain ⟨d, rfl⟩ := Int.eq_ofNat_of_zero_le (Int.le_of_lt hy0)
    have r := pk_rem (a := n) (d := d) (by omega) (by omega) (by omega)
    have e1 : Int32.ofInt (n : Int) = nI n := rfl
    have e2 : Int32.ofInt (d : Int) = nI d := rfl
    rw [e1, e2, r]
    have hlt : n % d < d := Nat.mod_lt _ (by omega)
    rw [nI_toInt (by omega), ← Int.natCast_emod, zv_i ⟨by omega, by omega⟩]
  rw [e]; exact kk H locs ls hl hh
theorem hr_div (C : hC l E ad D cy A H0 p e R s m args below meth c Q cc nL own) {x y : Int} (hdg : decode cc pc = .ok (.idiv, 1)) (hx0 : 0 ≤ x) (hx1 : x ≤ 2147483647) (hy0 : 0 < y) (hy1 : y ≤ 2147483647) (hp : pc + 1 = pc') (kk : HW l E ad D cy A H0 p e R s m args below meth c Q cc nL own pc' lv (zv (x / y) :: st) ws) : HW l E ad D cy A H0 p e R s m args below meth c Q cc nL own pc lv (zv y :: zv x :: st) ws := fun H locs ls hl hh => by
  subst hp
  have ey := zv_i (z := y) ⟨by omega, hy1⟩
  have ex := zv_i (z := x) ⟨by omega, hx1⟩
  have hne : ¬ Int32.ofInt y = 0 := fun h => by have := congrArg Int32.toInt h; rw [ey] at this; have e0 : (0 : Int32).toInt = 0 := rfl; omega
  refine lv_idiv C.1 C.2.1 hdg hne ?_
  have e : Int32.ofInt x / Int32.ofInt y = Int32.ofInt (x / y) := by
    rw [← Int32.toInt_inj, Int32.toInt_div, ex, ey, Int.tdiv_eq_ediv_of_nonneg hx0]
    have g1 : 0 ≤ x / y := Int.ediv_nonneg hx0 (by omega)
    have g2 : x / y ≤ x := Int.ediv_le_self _ hx0
    rw [zv_i ⟨by omega, by omega⟩]
    exact fx_bm (by unfold fx_lo32; omega) (by unfold fx_hi32; omega)
  rw [e]; exact kk H locs ls hl hh
theorem hr_cmp (C : hC l E ad D cy A H0 p e R s m args below meth c Q cc nL own) {o : ClassFile.Cond} {x y off : Int} (tgt : Nat) (hdg : decode cc pc = .ok (.if_icmp o off, 3)) (ht : (pc : Int) + off = (tgt : Int)) (hx : rg x) (hy : rg y) (hp : pc + 3 = pc') (kt : cz o x y → HW l E ad D cy A H0 p e R s m args below meth c Q cc nL own tgt lv st ws) (kf : cz (fx_ng o) x y → HW l E ad D cy A H0 p e R s m args below meth c Q cc nL own pc' lv st ws) : HW l E ad D cy A H0 p e R s m args below meth c Q cc nL own pc lv (zv y :: zv x :: st) ws := fun H locs ls hl hh => by
  subst hp; exact fx_icm C.1 C.2.1 hdg ht (fun h => kt (cz_of hx hy h) H locs ls hl hh) (fun h => kf (cz_of hx hy h) H locs ls hl hh)
theorem hr_if (C : hC l E ad D cy A H0 p e R s m args below meth c Q cc nL own) {o : ClassFile.Cond} {x off : Int} (tgt : Nat) (hdg : decode cc pc = .ok (.ifCond o off, 3)) (ht : (pc : Int) + off = (tgt : Int)) (hx : rg x) (hp : pc + 3 = pc') (kt : cz o x 0 → HW l E ad D cy A H0 p e R s m args below meth c Q cc nL own tgt lv st ws) (kf : cz (fx_ng o) x 0 → HW l E ad D cy A H0 p e R s m args below meth c Q cc nL own pc' lv st ws) : HW l E ad D cy A H0 p e R s m args below meth c Q cc nL own pc lv (zv x :: st) ws := fun H locs ls hl hh => by
  subst hp
  have e0 : (0 : Int32) = Int32.ofInt 0 := rfl
  exact fx_ifc C.1 C.2.1 hdg ht (fun h => kt (cz_of hx ⟨by omega, by omega⟩ (by rw [← e0]; exact h)) H locs ls hl hh) (fun h => kf (cz_of hx ⟨by omega, by omega⟩ (by rw [← e0]; exact h)) H locs ls hl hh)
theorem hr_goto (C : hC l E ad D cy A H0 p e R s m args below meth c Q cc nL own) {off : Int} (tgt : Nat) (hdg : decode cc pc = .ok (.goto off, 3)) (ht : (pc : Int) + off = (tgt : Int)) (kk : HW l E ad D cy A H0 p e R s m args below meth c Q cc nL own tgt lv st ws) : HW l E ad D cy A H0 p e R s m args below meth c Q cc nL own pc lv st ws := fun H locs ls hl hh => lv_goto C.1 C.2.1 hdg ht (kk H locs ls hl hh)
theorem hr_dup (C : hC l E ad D cy A H0 p e R s m args below meth c Q cc nL own) {v : Value} (hdg : decode cc pc = .ok (.dup, 1)) (hv : v.category = 1) (hp : pc + 1 = pc') (kk : HW l E ad D cy A H0 p e R s m args below meth c Q cc nL own pc' lv (v :: v :: st) ws) : HW l E ad D cy A H0 p e R s m args below meth c Q cc nL own pc lv (v :: st) ws := fun H locs ls hl hh => by
  subst hp; exact lv_dup C.1 C.2.1 hdg hv (kk H locs ls hl hh)
theorem hr_dup2 (C : hC l E ad D cy A H0 p e R s m args below meth c Q cc nL own) {u v : Value} (hdg : decode cc pc = .ok (.dup2, 1)) (hu : u.category = 1) (hv : v.category = 1) (hp : pc + 1 = pc') (kk : HW l E ad D cy A H0 p e R s m args below meth c Q cc nL own pc' lv (v :: u :: v :: u :: st) ws) : HW l E ad D cy A H0 p e R s m args below meth c Q cc nL own pc lv (v :: u :: st) ws := fun H locs ls hl hh => by
  subst hp; exact lv_dup2_11 C.1 C.2.1 hdg hv hu (kk H locs ls hl hh)
theorem hr_pop (C : hC l E ad D cy A H0 p e R s m args below meth c Q cc nL own) {v : Value} (hdg : decode cc pc = .ok (.pop, 1)) (hv : v.category = 1) (hp : pc + 1 = pc') (kk : HW l E ad D cy A H0 p e R s m args below meth c Q cc nL own pc' lv st ws) : HW l E ad D cy A H0 p e R s m args below meth c Q cc nL own pc lv (v :: st) ws := fun H locs ls hl hh => by
  subst hp; exact lv_pop C.1 C.2.1 hdg hv (kk H locs ls hl hh)
theorem hr_pick (ps : List Nat) (hs : lv_pick lv ps = lv') (kk : HW l E ad D cy A H0 p e R s m args below meth c Q cc nL own pc lv' st ws) : HW l E ad D cy A H0 p e R s m args below meth c Q cc nL own pc lv st ws := fun H locs ls hl hh => kk H locs ls (lv_sub hl ps hs) hh
theorem hr_wk (hs : ∀ q ∈ lv', q ∈ lv) (kk : HW l E ad D cy A H0 p e R s m args below meth c Q cc nL own pc lv' st ws) : HW l E ad D cy A H0 p e R s m args below meth c Q cc nL own pc lv st ws := fun H locs ls hl hh => kk H locs ls ⟨hl.1, hl.2.1, fun q hq => hl.2.2 q (hs q hq)⟩ hh
theorem hr_gI (C : hC l E ad D cy A H0 p e R s m args below meth c Q cc nL own) {ts : List fx_T} {i fi a : Nat} {lo hi : Int} (ha : ad[0]? = some a) (hT : TM[0]? = some (.inl (12, ts))) (ht : ts[fi]? = some (.inl (lo, hi))) (hfl : fx_gl wsL_law nestW classes own (i, 12, fi)) (hdg : decode cc pc = .ok (.getfield i, 3)) (hp : pc + 3 = pc') (kk : lo ≤ vi ws 0 fi → vi ws 0 fi ≤ hi → HW l E ad D cy A H0 p e R s m args below meth c Q cc nL own pc' lv (zv (vi ws 0 fi) :: st) ws) : HW l E ad D cy A H0 p e R s m args below meth c Q cc nL own pc lv (.ref a :: st) ws := fun H locs ls hl hh => by
  subst hp
  obtain ⟨vs, h1, h2, h3, -⟩ := tm_obj hh.1 ha hT
  obtain ⟨v, v1, x, rfl, x1, x2⟩ := h3 fi _ ht
  have e := vi_f h1 v1
  have kk' := kk (by rw [e]; exact x1) (by rw [e]; exact x2)
  rw [e, ← zv_of] at kk'
  obtain ⟨C', T', N', c1, c2, c3, c4⟩ := hfl
  have hK := (C.2.2.2.2.2.1.1 _ _ C.2.2.2.2.2.2.1)
  rcases c4 with c4 | ⟨host, c4⟩
  · exact va_get C.1 C.2.1 C.2.2.2.1 c3 C.2.2.2.2.1 hK.1 hh.2.1 0 h1 c1 fi c2 (C.2.2.2.1 _ c4) (fun _ h9 => h9) v1 hdg (kk' H locs ls hl hh)
  · exact va_getN C.1 C.2.1 C.2.2.2.1 c3 C.2.2.2.2.1 hK.1 hh.2.1 0 h1 c1 fi c2 (va_Nw.use rfl (hK.2 _ c4)) (fun _ h9 => h9) v1 hdg (kk' H locs ls hl hh)
theorem hr_gA (C : hC l E ad D cy A H0 p e R s m args below meth c Q cc nL own) {ts : List fx_T} {i fi a g : Nat} (ha : ad[0]? = some a) (hT : TM[0]? = some (.inl (12, ts))) (ht : ts[fi]? = some (.inr (.inr (g + 1)))) (hg : g < 10000) (hfl : fx_gl wsL_law nestW classes own (i, 12, fi)) (hdg : decode cc pc = .ok (.getfield i, 3)) (hp : pc + 3 = pc') (kk : ∀ b, ad[g]? = some b → HW l E ad D cy A H0 p e R s m args below meth c Q cc nL own pc' lv (.ref b :: st) ws) : HW l E ad D cy A H0 p e R s m args below meth c Q cc nL own pc lv (.ref a :: st) ws := fun H locs ls hl hh => by
  subst hp
  obtain ⟨vs, h1, h2, h3, -⟩ := tm_obj hh.1 ha hT
  obtain ⟨v, v1, k, b, v2, v3, rfl⟩ := h3 fi _ ht
  have hkg : k = g := by
    rcases v3 with ⟨_, v3⟩ | ⟨v3, _⟩
    · exact tm_gs v3
    · omega
  subst hkg
  have kk' := kk b v2
  obtain ⟨C', T', N', c1, c2, c3, c4⟩ := hfl
  have hK := (C.2.2.2.2.2.1.1 _ _ C.2.2.2.2.2.2.1)
  rcases c4 with c4 | ⟨host, c4⟩
  · exact va_get C.1 C.2.1 C.2.2.2.1 c3 C.2.2.2.2.1 hK.1 hh.2.1 0 h1 c1 fi c2 (C.2.2.2.1 _ c4) (fun _ h9 => h9) v1 hdg (kk' H locs ls hl hh)
  · exact va_getN C.1 C.2.1 C.2.2.2.1 c3 C.2.2.2.2.1 hK.1 hh.2.1 0 h1 c1 fi c2 (va_Nw.use rfl (hK.2 _ c4)) (fun _ h9 => h9) v1 hdg (kk' H locs ls hl hh)
theorem hr_pI (C : hC l E ad D cy A H0 p e R s m args below meth c Q cc nL own) {ts : List fx_T} {i fi a : Nat} {lo hi z : Int} (ha : ad[0]? = some a) (hT : TM[0]? = some (.inl (12, ts))) (ht : ts[fi]? = some (.inl (lo, hi))) (hlh : -2147483648 ≤ lo ∧ hi ≤ 2147483647) (hpl : fx_pl wsL_law nestW classes own (i, 12, fi, 0)) (hdg : decode cc pc = .ok (.putfield i, 3)) (h0 : lo ≤ z) (h1 : z ≤ hi) (hp : pc + 3 = pc') (kk : ∀ ws', fx_wo (gsM, TM, cy, fun _ => True) ad ws' → fx_sm (gsM, TM, cy, fun _ => True) [(12, fi)] ws ws' → (∀ g j, vi ws' g j = if g = 0 ∧ j = fi then z else vi ws g j) → HW l E ad D cy A H0 p e R s m args below meth c Q cc nL own pc' lv st ws') : HW l E ad D cy A H0 p e R s m args below meth c Q cc nL own pc lv (zv z :: .ref a :: st) ws := fun H locs ls hl hh => by
  subst hp
  obtain ⟨vs, g1, g2, g3, g4⟩ := tm_obj hh.1 ha hT
  have hz : rg z := ⟨by omega, by omega⟩
  have hlen : fi < vs.length := by rw [g2]; exact (List.getElem?_eq_some_iff.mp ht).1
  have hv : fx_ok gsM ad (.inl (lo, hi)) (zv z) := ⟨_, rfl, by rw [zv_i hz]; exact h0, by rw [zv_i hz]; exact h1⟩
  obtain ⟨C', T', N', ty0, ty, c1, c2, c3, c4, c5, c6, c7, c8, c9⟩ := hpl
  obtain ⟨n1, n2⟩ := fx_kk_ok (kd := 0) (t := .inl (lo, hi)) rfl c8 hv
  have hK := (C.2.2.2.2.2.1.1 _ _ C.2.2.2.2.2.2.1)
  have kf : ∀ (H1 : Heap) (locs1 : List Loc), va_P D classes (ws.set 0 (a, .inr (12, vs.set fi (zv z)))) H1 → va_D A (ws.set 0 (a, .inr (12, vs.set fi (zv z)))) → va_S A H0 H1 locs1 → W p l e R s m args below meth c H1 locs1 0 0 Q (F0 m (pc + 3) ls st) := fun H1 locs1 hP1 hD1 hS1 =>
    kk _ (fx_wo_set hh.1 g1 g4 hT (fx_ok_set g2 g3 ht hv)) (fx_sm_set fx_sm_refl g1 (List.mem_singleton.mpr rfl)) (vi_setf hz g1 hlen) H1 locs1 ls hl ⟨fx_wo_set hh.1 g1 g4 hT (fx_ok_set g2 g3 ht hv), hP1, hD1, hS1⟩
  rcases c9 with c9 | ⟨host, c9⟩
  · exact va_put C.1 C.2.1 C.2.2.2.1 c3 ty0 c4 c5 C.2.2.2.2.1 hK.1 hh.2.1 hh.2.2.1 hh.2.2.2 0 g1 c1 fi c2 (C.2.2.2.1 _ c9) (fun _ h9 => h9) c6 c7 n1 n2 hlen hdg kf
  · exact va_putN C.1 C.2.1 C.2.2.2.1 c3 ty0 c4 c5 C.2.2.2.2.1 hK.1 hh.2.1 hh.2.2.1 hh.2.2.2 0 g1 c1 fi c2 (va_Nw.use rfl (hK.2 _ c9)) (fun _ h9 => h9) c6 c7 n1 n2 hlen hdg kf
theorem hr_ald (C : hC l E ad D cy A H0 p e R s m args below meth c Q cc nL own) {g a n : Nat} {pat : List fx_T} {z : Int} (ha : ad[g]? = some a) (hT : TM[g]? = some (.inr (0, n, pat))) (h0 : 0 ≤ z) (h1 : z < n) (hn : n ≤ 100000) (hdg : decode cc pc = .ok (.iaload, 1)) (hp : pc + 1 = pc') (kk : (∀ lo hi, pat[z.toNat % pat.length]? = some (.inl (lo, hi)) → lo ≤ vi ws g z.toNat ∧ vi ws g z.toNat ≤ hi) → rg (vi ws g z.toNat) → HW l E ad D cy A H0 p e R s m args below meth c Q cc nL own pc' lv (zv (vi ws g z.toNat) :: st) ws) : HW l E ad D cy A H0 p e R s m args below meth c Q cc nL own pc lv (zv z :: .ref a :: st) ws := fun H locs ls hl hh => by
  subst hp
  obtain ⟨x, g1, ⟨f, rfl⟩, g3, -⟩ := tm_arr hh.1 ha hT
  have hK := (C.2.2.2.2.2.1.1 _ _ C.2.2.2.2.2.2.1)
  have en := zv_n h0 (show z ≤ 2147483647 by omega)
  have e : vi ws g z.toNat = (f z.toNat).toInt := vi_a g1
  have r := fx_r32 (f z.toNat)
  unfold fx_lo32 fx_hi32 at r
  have kk' := kk (fun lo hi hp => by
    obtain ⟨y, y1, y2, y3⟩ := g3 z.toNat _ (by omega) hp
    cases y1
    rw [e]; exact ⟨y2, y3⟩) (by rw [e]; exact r)
  rw [e, ← zv_of] at kk'
  refine va_iald C.1 C.2.1 hK.1 hh.2.1 g 0 g1 (ht_tys cy).1 (vp_in_iff.mpr ⟨by rw [zv_i ⟨by omega, by omega⟩]; omega, by rw [zv_i ⟨by omega, by omega⟩]; omega⟩) hdg ?_
  rw [en]
  exact kk' H locs ls hl hh
theorem hr_ast (C : hC l E ad D cy A H0 p e R s m args below meth c Q cc nL own) {g a n : Nat} {pat : List fx_T} {z y : Int} (ha : ad[g]? = some a) (hT : TM[g]? = some (.inr (0, n, pat))) (h0 : 0 ≤ z) (h1 : z < n) (hn : n ≤ 100000) (hy : rg y) (hpat : ∀ t, pat[z.toNat % pat.length]? = some t → ∃ lo hi, t = .inl (lo, hi) ∧ lo ≤ y ∧ y ≤ hi) (hdg : decode cc pc = .ok (.iastore, 1)) (hp : pc + 1 = pc') (kk : ∀ ws', fx_wo (gsM, TM, cy, fun _ => True) ad ws' → fx_sm (gsM, TM, cy, fun _ => True) [(1000, g)] ws ws' → (∀ g' j, vi ws' g' j = if g' = g ∧ j = z.toNat then y else vi ws g' j) → HW l E ad D cy A H0 p e R s m args below meth c Q cc nL own pc' lv st ws') : HW l E ad D cy A H0 p e R s m args below meth c Q cc nL own pc lv (zv y :: zv z :: .ref a :: st) ws := fun H locs ls hl hh => by
  subst hp
  obtain ⟨x, g1, ⟨f, rfl⟩, g3, g4⟩ := tm_arr hh.1 ha hT
  have hK := (C.2.2.2.2.2.1.1 _ _ C.2.2.2.2.2.2.1)
  have en := zv_n h0 (show z ≤ 2147483647 by omega)
  refine va_iast C.1 C.2.1 hK.1 hh.2.1 hh.2.2.1 hh.2.2.2 g 0 g1 (ht_tys cy).1 (vp_in_iff.mpr ⟨by rw [zv_i ⟨by omega, by omega⟩]; omega, by rw [zv_i ⟨by omega, by omega⟩]; omega⟩) hdg ?_
  rw [en]
  intro H1 locs1 hP1 hD1 hS1
  have hwo : fx_wo (gsM, TM, cy, fun _ => True) ad (ws.set g (a, .inl (cy 0, n, .inl (upd f z.toNat (Int32.ofInt y))))) := by
    refine fx_wo_set hh.1 g1 g4 hT ⟨rfl, rfl, ⟨_, rfl⟩, fun j t hj ht => ?_⟩
    by_cases e : j = z.toNat
    · subst e
      obtain ⟨lo, hi, rfl, y1, y2⟩ := hpat t ht
      refine ⟨Int32.ofInt y, ?_, by rw [zv_i hy]; exact y1, by rw [zv_i hy]; exact y2⟩
      simp only [fx_el, upd, if_true]
    · have := g3 j t hj ht
      simp only [fx_el, upd, e, if_false] at this ⊢
      exact this
  exact kk _ hwo (fx_sm_arr fx_sm_refl g1 g4 (List.mem_singleton.mpr rfl)) (vi_seta hy g1) H1 locs1 ls hl ⟨hwo, hP1, hD1, hS1⟩
end HW

