-- a checker over abstract states: types of symbols, what they mean
abbrev fx_T : Type := (Int × Int) ⊕ ((Int × Int) ⊕ Nat)
abbrev fx_V : Type := Nat × Int
abbrev fx_G : Type := (Nat × List fx_T) ⊕ (Nat × Nat × List fx_T)
abbrev fx_F : Type := Nat × Nat × fx_V
abbrev fx_L : Type := List (Nat × fx_V)
abbrev fx_S : Type := List fx_T × fx_L × List fx_V × List fx_F
abbrev fx_Y : Type := List Nat × List fx_G × (Nat → ClassId) × (va_W → Prop)
abbrev fx_A : Type := (Nat → Int32) ⊕ (Nat → Int64) ⊕ (Nat → UInt32) ⊕ (Nat → UInt64) ⊕ (Nat → Option Nat)
abbrev fx_Q : Type := (Nat × Nat) × fx_T
/-- a value: a symbol, and so much more if it is an int -/
def fx_v (r : List Value) (a : fx_V) : Option Value := match r[a.1]? with
  | some (.int x) => some (.int (x + Int32.ofInt a.2))
  | o => o
/-- a cell of a group; from 10000 on: of a block of 32 groups -/
def fx_ig (gs : List Nat) (k g : Nat) : Prop := (g < 10000 ∧ gs[k]? = some g) ∨ (10000 ≤ g ∧ ∃ g', g' < 10000 ∧ gs[k]? = some g' ∧ g' / 32 = g - 10000)
def fx_ok (gs ad : List Nat) (t : fx_T) (v : Value) : Prop := match t with
  | .inl i => ∃ x : Int32, v = .int x ∧ i.1 ≤ x.toInt ∧ x.toInt ≤ i.2
  | .inr (.inl i) => ∃ x : Int64, v = .long x ∧ i.1 ≤ x.toInt ∧ x.toInt ≤ i.2
  | .inr (.inr 0) => v = .null
  | .inr (.inr (g + 1)) => ∃ k a : Nat, ad[k]? = some a ∧ fx_ig gs k g ∧ v = .ref a
def fx_el (x : fx_A) (j : Nat) : Value := match x with
  | .inl f => .int (f j)
  | .inr (.inl f) => .long (f j)
  | .inr (.inr (.inl f)) => .float (f j)
  | .inr (.inr (.inr (.inl f))) => .double (f j)
  | .inr (.inr (.inr (.inr f))) => va_rf (f j)
def fx_sh (t0 : Nat) (x : fx_A) : Prop := match t0 with
  | 0 => ∃ f, x = .inl f
  | 1 => ∃ f, x = .inr (.inl f)
  | 2 => ∃ f, x = .inl f
  | 3 => ∃ f, x = .inl f
  | _ => ∃ f, x = .inr (.inr (.inr (.inr f)))
def fx_okE (Y : fx_Y) (ad : List Nat) (G : fx_G) (e : va_E) : Prop := match G, e with
  | .inl (ci, ts), .inr (c, vs) => c = ci ∧ vs.length = ts.length ∧ ∀ (i : Nat) (t : fx_T), ts[i]? = some t → ∃ v, vs[i]? = some v ∧ fx_ok Y.1 ad t v
  | .inr (t0, n, pat), .inl (cA, n', x) => cA = Y.2.2.1 t0 ∧ n' = n ∧ fx_sh t0 x ∧ ∀ (j : Nat) (t : fx_T), j < n → pat[j % pat.length]? = some t → fx_ok Y.1 ad t (fx_el x j)
  | _, _ => False
/-- what stands at a place of a cell -/
def fx_at (e : va_E) (i : Nat) : Option Value := match e with
  | .inr o => o.2[i]?
  | .inl (_, n, x) => if i < n then some (fx_el x i) else none
def fx_ty (Y : fx_Y) (ad : List Nat) (G : List fx_T) (r : List Value) : Prop := r.length = G.length ∧ ∀ (i : Nat) (t : fx_T), G[i]? = some t → ∃ v, r[i]? = some v ∧ fx_ok Y.1 ad t v
def fx_lo (r : List Value) (ls : Array Slot) (nL : Nat) (L : fx_L) : Prop := ls.size = nL ∧ lv_wf ls ∧ ∀ q ∈ L, ∃ v, fx_v r q.2 = some v ∧ ls[q.1]? = some (.val v)
def fx_st (r : List Value) (S : List fx_V) (st : List Value) : Prop := S.map (fx_v r) = st.map some
def fx_fa (r : List Value) (ws : va_W) (f : fx_F) : Prop := ∃ (a k : Nat) (e : va_E) (v : Value), r[f.1]? = some (.ref a) ∧ ws[k]? = some (a, e) ∧ fx_at e f.2.1 = some v ∧ fx_v r f.2.2 = some v
def fx_wo (Y : fx_Y) (ad : List Nat) (ws : va_W) : Prop := ws.map Prod.fst = ad ∧ ∀ (k a : Nat) (e : va_E), ws[k]? = some (a, e) → ∃ g G, Y.1[k]? = some g ∧ Y.2.1[g]? = some G ∧ fx_okE Y ad G e
def fx_sm (Y : fx_Y) (md : List (Nat × Nat)) (w0 w : va_W) : Prop :=
  (∀ (k a c : Nat) (vs : List Value), w0[k]? = some (a, .inr (c, vs)) → ∃ vs', w[k]? = some (a, .inr (c, vs')) ∧ ∀ i, (c, i) ∉ md → vs'[i]? = vs[i]?) ∧
  (∀ (k a g : Nat) (x : ClassId × vp_A), w0[k]? = some (a, .inl x) → Y.1[k]? = some g → (1000, g) ∉ md → w[k]? = some (a, .inl x))
/-- what md says may change leaves the invariant -/
def fx_fr (Y : fx_Y) (md : List (Nat × Nat)) : Prop := ∀ w w' : va_W, fx_sm Y md w w' → Y.2.2.2 w → Y.2.2.2 w'
theorem fx_sm_refl {Y : fx_Y} {md : List (Nat × Nat)} {w : va_W} : fx_sm Y md w w := ⟨fun k a c vs h => ⟨vs, h, fun _ _ => rfl⟩, fun k a g x h _ _ => h⟩
/-- symbols more: what stands at places of cells -/
def fx_fs (Y : fx_Y) (ad : List Nat) (ws : va_W) : List Value → List fx_Q → List Value → Prop
  | r, [], r' => r' = r
  | r, q :: l, r' => ∃ (a k : Nat) (e : va_E) (v : Value), r[q.1.1]? = some (.ref a) ∧ ws[k]? = some (a, e) ∧ fx_at e q.1.2 = some v ∧ fx_ok Y.1 ad q.2 v ∧ fx_fs Y ad ws (r ++ [v]) l r'
def fx_g (Y : fx_Y) (ad : List Nat) (nL : Nat) (g : fx_S) (r : List Value) (ws : va_W) (ls : Array Slot) (st : List Value) : Prop :=
  fx_ty Y ad g.1 r ∧ fx_lo r ls nL g.2.1 ∧ fx_st r g.2.2.1 st ∧ ∀ f ∈ g.2.2.2, fx_fa r ws f
-- the values of symbols stay when more come
theorem fx_v_mono {r : List Value} {a : fx_V} {v : Value} (w : List Value) (h : fx_v r a = some v) : fx_v (r ++ w) a = some v := by
  unfold fx_v at h ⊢
  cases h1 : r[a.1]? with
  | none => rw [h1] at h; cases h
  | some x =>
    have hl := (List.getElem?_eq_some_iff.mp h1).1
    rw [List.getElem?_append_left hl, h1]
    rw [h1] at h
    exact h
theorem fx_get_mono {r : List Value} {i : Nat} {v : Value} (w : List Value) (h : r[i]? = some v) : (r ++ w)[i]? = some v := by
  have hl := (List.getElem?_eq_some_iff.mp h).1
  rw [List.getElem?_append_left hl, h]
theorem fx_add0 (x : Int32) : x + Int32.ofInt 0 = x := by
  have h : Int32.ofInt 0 = 0 := rfl
  rw [h, Int32.add_zero]
theorem fx_v_0 {r : List Value} {i : Nat} {v : Value} (h : r[i]? = some v) : fx_v r (i, 0) = some v := by
  unfold fx_v
  rw [h]
  cases v <;> first | rfl | (simp only []; rw [fx_add0])
theorem fx_v_get0 {r : List Value} {i : Nat} {v : Value} (h : fx_v r (i, 0) = some v) : r[i]? = some v := by
  cases h1 : r[i]? with
  | none => unfold fx_v at h; simp only [h1] at h; cases h
  | some x => rw [fx_v_0 h1] at h; exact h
theorem fx_lo_mono {r : List Value} {ls : Array Slot} {nL : Nat} {L : fx_L} (w : List Value) (h : fx_lo r ls nL L) : fx_lo (r ++ w) ls nL L :=
  ⟨h.1, h.2.1, fun q hq => by obtain ⟨v, h1, h2⟩ := h.2.2 q hq; exact ⟨v, fx_v_mono w h1, h2⟩⟩
theorem fx_st_nil {r : List Value} {st : List Value} (h : fx_st r [] st) : st = [] := by
  unfold fx_st at h
  cases st with
  | nil => rfl
  | cons a b => simp at h
theorem fx_st_cons {r : List Value} {a : fx_V} {S : List fx_V} {st : List Value} (h : fx_st r (a :: S) st) : ∃ v st', st = v :: st' ∧ fx_v r a = some v ∧ fx_st r S st' := by
  unfold fx_st at h
  cases st with
  | nil => simp at h
  | cons v st' =>
    simp only [List.map_cons, List.cons.injEq] at h
    exact ⟨v, st', rfl, h.1, h.2⟩
theorem fx_st_push {r : List Value} {a : fx_V} {v : Value} {S : List fx_V} {st : List Value} (h1 : fx_v r a = some v) (h : fx_st r S st) : fx_st r (a :: S) (v :: st) := by
  unfold fx_st at h ⊢
  rw [List.map_cons, List.map_cons, h1, h]
theorem fx_st_mono {r : List Value} (w : List Value) : ∀ {S : List fx_V} {st : List Value}, fx_st r S st → fx_st (r ++ w) S st
  | [], st, h => by rw [fx_st_nil h]; rfl
  | a :: S, st, h => by
    obtain ⟨v, st', rfl, h1, h2⟩ := fx_st_cons h
    exact fx_st_push (fx_v_mono w h1) (fx_st_mono w h2)
theorem fx_fa_mono {r : List Value} {ws : va_W} {f : fx_F} (w : List Value) (h : fx_fa r ws f) : fx_fa (r ++ w) ws f := by
  obtain ⟨a, k, e, v, h1, h2, h3, h4⟩ := h
  exact ⟨a, k, e, v, fx_get_mono w h1, h2, h3, fx_v_mono w h4⟩
theorem fx_ty_push {Y : fx_Y} {ad : List Nat} {G : List fx_T} {r : List Value} {t : fx_T} {v : Value} (h : fx_ty Y ad G r) (hv : fx_ok Y.1 ad t v) : fx_ty Y ad (G ++ [t]) (r ++ [v]) := by
  refine ⟨by simp [h.1], fun i t' hi => ?_⟩
  by_cases hl : i < G.length
  · rw [List.getElem?_append_left hl] at hi
    obtain ⟨w, h1, h2⟩ := h.2 i t' hi
    exact ⟨w, fx_get_mono _ h1, h2⟩
  · rw [List.getElem?_append_right (by omega)] at hi
    have hz : i - G.length < 1 := (List.getElem?_eq_some_iff.mp hi).1
    have hi0 : i = G.length := by omega
    subst hi0
    rw [Nat.sub_self] at hi
    cases hi
    refine ⟨v, ?_, hv⟩
    rw [← h.1, List.getElem?_append_right (by omega), Nat.sub_self]
    rfl
theorem fx_v_new {Y : fx_Y} {ad : List Nat} {G : List fx_T} {r : List Value} {v : Value} (h : fx_ty Y ad G r) : fx_v (r ++ [v]) (G.length, 0) = some v := by
  apply fx_v_0
  rw [← h.1, List.getElem?_append_right (by omega), Nat.sub_self]
  rfl
theorem fx_push {Y : fx_Y} {ad : List Nat} {nL : Nat} {G : List fx_T} {L : fx_L} {S : List fx_V} {F : List fx_F} {r : List Value} {ws : va_W} {ls : Array Slot} {st : List Value} {t : fx_T} {v : Value} (h : fx_g Y ad nL (G, L, S, F) r ws ls st) (hv : fx_ok Y.1 ad t v) :
    fx_g Y ad nL (G ++ [t], L, (G.length, 0) :: S, F) (r ++ [v]) ws ls (v :: st) :=
  ⟨fx_ty_push h.1 hv, fx_lo_mono _ h.2.1, fx_st_push (fx_v_new h.1) (fx_st_mono _ h.2.2.1), fun f hf => fx_fa_mono _ (h.2.2.2 f hf)⟩
-- numbers
def fx_lo32 : Int := -2147483648
def fx_hi32 : Int := 2147483647
theorem fx_r32 (x : Int32) : fx_lo32 ≤ x.toInt ∧ x.toInt ≤ fx_hi32 := by
  have h1 := Int32.le_toInt x
  have h2 := Int32.toInt_lt x
  unfold fx_lo32 fx_hi32
  omega
theorem fx_bm {z : Int} (h1 : fx_lo32 ≤ z) (h2 : z ≤ fx_hi32) : z.bmod (2 ^ 32) = z := by
  unfold fx_lo32 at h1
  unfold fx_hi32 at h2
  rw [Int.bmod_eq_of_le] <;> omega
theorem fx_i32 {z : Int} (h1 : fx_lo32 ≤ z) (h2 : z ≤ fx_hi32) : (Int32.ofInt z).toInt = z := by
  rw [Int32.toInt_ofInt]
  exact fx_bm h1 h2
theorem fx_addI {x : Int32} {d : Int} (h1 : fx_lo32 ≤ x.toInt + d) (h2 : x.toInt + d ≤ fx_hi32) : (x + Int32.ofInt d).toInt = x.toInt + d := by
  rw [Int32.toInt_add, Int32.toInt_ofInt, Int.add_bmod_bmod]
  exact fx_bm h1 h2
theorem fx_addO (x : Int32) (a b : Int) : x + Int32.ofInt a + Int32.ofInt b = x + Int32.ofInt (a + b) := by
  rw [Int32.add_assoc, Int32.ofInt_add]
/-- the interval of a value -/
def fx_iv (G : List fx_T) (a : fx_V) : Option (Int × Int) := match G[a.1]? with
  | some (.inl i) => if fx_lo32 ≤ i.1 + a.2 ∧ i.2 + a.2 ≤ fx_hi32 then some (i.1 + a.2, i.2 + a.2) else some (fx_lo32, fx_hi32)
  | _ => none
theorem fx_iv_ok {Y : fx_Y} {ad : List Nat} {G : List fx_T} {r : List Value} {a : fx_V} {i : Int × Int} {v : Value} (h : fx_ty Y ad G r) (hi : fx_iv G a = some i) (hv : fx_v r a = some v) : ∃ x : Int32, v = .int x ∧ i.1 ≤ x.toInt ∧ x.toInt ≤ i.2 := by
  unfold fx_iv at hi
  split at hi
  · rename_i j hj
    obtain ⟨w, h1, x, rfl, h2, h3⟩ := h.2 _ _ hj
    unfold fx_v at hv
    rw [h1] at hv
    cases hv
    refine ⟨_, rfl, ?_⟩
    split at hi
    · rename_i hc
      cases hi
      have := fx_addI (x := x) (d := a.2) (by omega) (by omega)
      rw [this]
      exact ⟨by simp only []; omega, by simp only []; omega⟩
    · cases hi
      exact fx_r32 _
  · cases hi
/-- what is known more of a value: none, if that can't be -/
def fx_rf (G : List fx_T) (a : fx_V) (i : Int × Int) : Option (List fx_T) := match G[a.1]? with
  | some (.inl j) => if fx_lo32 ≤ j.1 + a.2 ∧ j.2 + a.2 ≤ fx_hi32 then
      (if max j.1 (i.1 - a.2) ≤ min j.2 (i.2 - a.2) then some (G.set a.1 (.inl (max j.1 (i.1 - a.2), min j.2 (i.2 - a.2)))) else none) else some G
  | _ => some G
theorem fx_ty_set {Y : fx_Y} {ad : List Nat} {G : List fx_T} {r : List Value} {k : Nat} {t : fx_T} {v : Value} (h : fx_ty Y ad G r) (hk : r[k]? = some v) (hv : fx_ok Y.1 ad t v) : fx_ty Y ad (G.set k t) r := by
  refine ⟨by simp [h.1], fun i t' hi => ?_⟩
  by_cases hik : k = i
  · subst hik
    rw [List.getElem?_set] at hi
    simp only [if_true] at hi
    split at hi
    · cases hi; exact ⟨v, hk, hv⟩
    · cases hi
  · rw [List.getElem?_set_ne hik] at hi
    exact h.2 i t' hi
theorem fx_rf_ok {Y : fx_Y} {ad : List Nat} {G : List fx_T} {r : List Value} {a : fx_V} {i : Int × Int} {x : Int32} (h : fx_ty Y ad G r) (hv : fx_v r a = some (.int x)) (h1 : i.1 ≤ x.toInt) (h2 : x.toInt ≤ i.2) : ∃ G', fx_rf G a i = some G' ∧ fx_ty Y ad G' r := by
  unfold fx_rf
  split
  · rename_i j hj
    obtain ⟨w, g1, y, rfl, g2, g3⟩ := h.2 _ _ hj
    unfold fx_v at hv
    rw [g1] at hv
    simp only [Option.some.injEq, Value.int.injEq] at hv
    split
    · rename_i hc
      have e := fx_addI (x := y) (d := a.2) (by omega) (by omega)
      rw [hv] at e
      rw [if_pos (by omega)]
      exact ⟨_, rfl, fx_ty_set h g1 ⟨y, rfl, by simp only []; omega, by simp only []; omega⟩⟩
    · exact ⟨_, rfl, h⟩
  · exact ⟨_, rfl, h⟩
