def tsM : List fx_T := [.inr (.inr 2), .inr (.inr 3), .inl (0, 1600), .inl (0, 1600), .inl (0, 5), .inl (-2147483648, 2147483647), .inl (0, 1600), .inl (0, 1601), .inl (-2147483648, 2147483647), .inl (-2147483648, 2147483647), .inr (.inl (-9223372036854775808, 9223372036854775807)), .inr (.inr 4), .inr (.inr 5), .inr (.inr 6), .inr (.inr 7), .inr (.inr 8), .inr (.inr 9), .inr (.inr 10), .inr (.inr 11), .inr (.inr 12), .inr (.inr 13), .inr (.inr 14), .inr (.inr 15), .inr (.inr 16), .inr (.inr 17), .inr (.inr 18), .inr (.inr 19), .inr (.inr 20), .inr (.inr 21), .inr (.inr 22), .inr (.inr 23), .inr (.inr 24), .inr (.inr 25), .inr (.inr 26), .inl (0, 1), .inl (0, 1), .inl (0, 1120), .inl (-2147483648, 2147483647), .inl (0, 90), .inl (-2147483648, 2147483647), .inl (0, 11), .inr (.inr 27), .inr (.inr 28), .inr (.inr 29), .inr (.inr 30), .inl (0, 12), .inl (0, 12), .inl (0, 12), .inr (.inr 31), .inl (0, 40), .inl (0, 40), .inr (.inr 32), .inr (.inr 33), .inr (.inr 34), .inr (.inr 35), .inl (0, 36), .inr (.inr 36), .inr (.inr 37), .inr (.inr 38), .inl (-2147483648, 2147483647), .inr (.inr 39), .inr (.inr 40), .inr (.inr 41), .inr (.inr 42), .inr (.inr 43), .inr (.inr 44), .inr (.inr 45), .inr (.inr 46), .inr (.inr 47), .inl (0, 30), .inl (0, 100000), .inl (-2147483648, 2147483647), .inr (.inr 48), .inr (.inr 49)]
def TM : List fx_G := [.inl (12, tsM), .inr (2, 1620, [.inl (-128, 127)]), .inr (2, 1600, [.inl (-128, 127)]), .inr (0, 2, [.inl (0, 9)]), .inr (0, 2, [.inl (-2147483648, 2147483647)]), .inr (0, 2, [.inl (0, 5)]), .inr (0, 2, [.inl (-2147483648, 2147483647)]), .inr (0, 2, [.inl (0, 999)]), .inr (0, 2, [.inl (0, 12)]), .inr (0, 18, [.inl (-2147483648, 2147483647)]), .inr (0, 162, [.inl (-2147483648, 2147483647)]), .inr (0, 18, [.inl (-2147483648, 2147483647)]), .inr (0, 24, [.inl (0, 8)]), .inr (0, 10, [.inl (0, 8)]), .inr (0, 80, [.inl (0, 8)]), .inr (0, 2, [.inl (0, 1120)]), .inr (0, 2, [.inl (0, 1120)]), .inr (3, 2, [.inl (0, 1)]), .inr (3, 2, [.inl (0, 1)]), .inr (3, 2, [.inl (0, 1)]), .inr (1, 18, [.inr (.inl (-9223372036854775808, 9223372036854775807))]), .inr (0, 1120, [.inl (-2147483648, 2147483647)]), .inr (0, 1120, [.inl (-2147483648, 2147483647)]), .inr (0, 90, [.inl (-2147483648, 2147483647)]), .inr (0, 90, [.inl (-2147483648, 2147483647)]), .inr (0, 60, [.inl (-2147483648, 2147483647)]), .inr (0, 15, [.inl (0, 8), .inl (0, 8), .inl (0, 8), .inl (0, 8), .inl (0, 8), .inl (0, 8), .inl (0, 8), .inl (0, 8), .inl (0, 8), .inl (0, 8), .inl (0, 8), .inl (0, 8), .inl (0, 12), .inl (-2147483648, 2147483647), .inl (0, 999)]), .inr (0, 12, [.inl (0, 8)]), .inr (0, 12, [.inl (0, 8)]), .inr (0, 12, [.inl (0, 8)]), .inr (0, 615, [.inl (0, 8), .inl (0, 8), .inl (0, 8), .inl (0, 8), .inl (0, 8), .inl (0, 8), .inl (0, 8), .inl (0, 8), .inl (0, 8), .inl (0, 8), .inl (0, 8), .inl (0, 8), .inl (0, 12), .inl (-2147483648, 2147483647), .inl (0, 999)]), .inr (0, 13, [.inl (-2147483648, 2147483647)]), .inr (0, 2197, [.inl (-2147483648, 2147483647)]), .inr (0, 2197, [.inl (-2147483648, 2147483647)]), .inr (0, 36, [.inl (-2147483648, 2147483647)]), .inr (0, 169, [.inl (-2147483648, 2147483647)]), .inr (0, 169, [.inl (-2147483648, 2147483647)]), .inr (0, 4096, [.inl (-2147483648, 2147483647)]), .inr (0, 15, [.inl (0, 8), .inl (0, 8), .inl (0, 8), .inl (0, 8), .inl (0, 8), .inl (0, 8), .inl (0, 8), .inl (0, 8), .inl (0, 8), .inl (0, 8), .inl (0, 8), .inl (0, 8), .inl (0, 12), .inl (-2147483648, 2147483647), .inl (0, 999)]), .inr (0, 30, [.inl (0, 4)]), .inr (0, 30, [.inl (0, 4)]), .inr (0, 30, [.inl (-2147483648, 2147483647)]), .inr (0, 30, [.inl (-2147483648, 2147483647)]), .inr (0, 30, [.inl (-2147483648, 2147483647)]), .inr (0, 5, [.inl (0, 4)]), .inr (0, 5, [.inl (0, 4)]), .inr (0, 25, [.inl (-2147483648, 2147483647)]), .inr (0, 45, [.inl (0, 8), .inl (0, 8), .inl (0, 8), .inl (0, 8), .inl (0, 8), .inl (0, 8), .inl (0, 8), .inl (0, 8), .inl (0, 8), .inl (0, 8), .inl (0, 8), .inl (0, 8), .inl (0, 12), .inl (-2147483648, 2147483647), .inl (0, 999)]), .inr (3, 3, [.inl (0, 1)])]
theorem TM0 : TM[0]? = some (.inl (12, tsM)) := rfl
theorem TMa_1 : TM[1]? = some (.inr (2, 1620, [.inl (-128, 127)])) := rfl
theorem TMa_2 : TM[2]? = some (.inr (2, 1600, [.inl (-128, 127)])) := rfl
theorem TMa_3 : TM[3]? = some (.inr (0, 2, [.inl (0, 9)])) := rfl
theorem TMa_4 : TM[4]? = some (.inr (0, 2, [.inl (-2147483648, 2147483647)])) := rfl
theorem TMa_5 : TM[5]? = some (.inr (0, 2, [.inl (0, 5)])) := rfl
theorem TMa_6 : TM[6]? = some (.inr (0, 2, [.inl (-2147483648, 2147483647)])) := rfl
theorem TMa_7 : TM[7]? = some (.inr (0, 2, [.inl (0, 999)])) := rfl
theorem TMa_8 : TM[8]? = some (.inr (0, 2, [.inl (0, 12)])) := rfl
theorem TMa_9 : TM[9]? = some (.inr (0, 18, [.inl (-2147483648, 2147483647)])) := rfl
theorem TMa_10 : TM[10]? = some (.inr (0, 162, [.inl (-2147483648, 2147483647)])) := rfl
theorem TMa_11 : TM[11]? = some (.inr (0, 18, [.inl (-2147483648, 2147483647)])) := rfl
theorem TMa_12 : TM[12]? = some (.inr (0, 24, [.inl (0, 8)])) := rfl
theorem TMa_13 : TM[13]? = some (.inr (0, 10, [.inl (0, 8)])) := rfl
theorem TMa_14 : TM[14]? = some (.inr (0, 80, [.inl (0, 8)])) := rfl
theorem TMa_15 : TM[15]? = some (.inr (0, 2, [.inl (0, 1120)])) := rfl
theorem TMa_16 : TM[16]? = some (.inr (0, 2, [.inl (0, 1120)])) := rfl
theorem TMa_17 : TM[17]? = some (.inr (3, 2, [.inl (0, 1)])) := rfl
theorem TMa_18 : TM[18]? = some (.inr (3, 2, [.inl (0, 1)])) := rfl
theorem TMa_19 : TM[19]? = some (.inr (3, 2, [.inl (0, 1)])) := rfl
theorem TMa_20 : TM[20]? = some (.inr (1, 18, [.inr (.inl (-9223372036854775808, 9223372036854775807))])) := rfl
theorem TMa_21 : TM[21]? = some (.inr (0, 1120, [.inl (-2147483648, 2147483647)])) := rfl
theorem TMa_22 : TM[22]? = some (.inr (0, 1120, [.inl (-2147483648, 2147483647)])) := rfl
theorem TMa_23 : TM[23]? = some (.inr (0, 90, [.inl (-2147483648, 2147483647)])) := rfl
theorem TMa_24 : TM[24]? = some (.inr (0, 90, [.inl (-2147483648, 2147483647)])) := rfl
theorem TMa_25 : TM[25]? = some (.inr (0, 60, [.inl (-2147483648, 2147483647)])) := rfl
theorem TMa_26 : TM[26]? = some (.inr (0, 15, [.inl (0, 8), .inl (0, 8), .inl (0, 8), .inl (0, 8), .inl (0, 8), .inl (0, 8), .inl (0, 8), .inl (0, 8), .inl (0, 8), .inl (0, 8), .inl (0, 8), .inl (0, 8), .inl (0, 12), .inl (-2147483648, 2147483647), .inl (0, 999)])) := rfl
theorem TMa_27 : TM[27]? = some (.inr (0, 12, [.inl (0, 8)])) := rfl
theorem TMa_28 : TM[28]? = some (.inr (0, 12, [.inl (0, 8)])) := rfl
theorem TMa_29 : TM[29]? = some (.inr (0, 12, [.inl (0, 8)])) := rfl
theorem TMa_30 : TM[30]? = some (.inr (0, 615, [.inl (0, 8), .inl (0, 8), .inl (0, 8), .inl (0, 8), .inl (0, 8), .inl (0, 8), .inl (0, 8), .inl (0, 8), .inl (0, 8), .inl (0, 8), .inl (0, 8), .inl (0, 8), .inl (0, 12), .inl (-2147483648, 2147483647), .inl (0, 999)])) := rfl
theorem TMa_31 : TM[31]? = some (.inr (0, 13, [.inl (-2147483648, 2147483647)])) := rfl
theorem TMa_32 : TM[32]? = some (.inr (0, 2197, [.inl (-2147483648, 2147483647)])) := rfl
theorem TMa_33 : TM[33]? = some (.inr (0, 2197, [.inl (-2147483648, 2147483647)])) := rfl
theorem TMa_34 : TM[34]? = some (.inr (0, 36, [.inl (-2147483648, 2147483647)])) := rfl
theorem TMa_35 : TM[35]? = some (.inr (0, 169, [.inl (-2147483648, 2147483647)])) := rfl
theorem TMa_36 : TM[36]? = some (.inr (0, 169, [.inl (-2147483648, 2147483647)])) := rfl
theorem TMa_37 : TM[37]? = some (.inr (0, 4096, [.inl (-2147483648, 2147483647)])) := rfl
theorem TMa_38 : TM[38]? = some (.inr (0, 15, [.inl (0, 8), .inl (0, 8), .inl (0, 8), .inl (0, 8), .inl (0, 8), .inl (0, 8), .inl (0, 8), .inl (0, 8), .inl (0, 8), .inl (0, 8), .inl (0, 8), .inl (0, 8), .inl (0, 12), .inl (-2147483648, 2147483647), .inl (0, 999)])) := rfl
theorem TMa_39 : TM[39]? = some (.inr (0, 30, [.inl (0, 4)])) := rfl
theorem TMa_40 : TM[40]? = some (.inr (0, 30, [.inl (0, 4)])) := rfl
theorem TMa_41 : TM[41]? = some (.inr (0, 30, [.inl (-2147483648, 2147483647)])) := rfl
theorem TMa_42 : TM[42]? = some (.inr (0, 30, [.inl (-2147483648, 2147483647)])) := rfl
theorem TMa_43 : TM[43]? = some (.inr (0, 30, [.inl (-2147483648, 2147483647)])) := rfl
theorem TMa_44 : TM[44]? = some (.inr (0, 5, [.inl (0, 4)])) := rfl
theorem TMa_45 : TM[45]? = some (.inr (0, 5, [.inl (0, 4)])) := rfl
theorem TMa_46 : TM[46]? = some (.inr (0, 25, [.inl (-2147483648, 2147483647)])) := rfl
theorem TMa_47 : TM[47]? = some (.inr (0, 45, [.inl (0, 8), .inl (0, 8), .inl (0, 8), .inl (0, 8), .inl (0, 8), .inl (0, 8), .inl (0, 8), .inl (0, 8), .inl (0, 8), .inl (0, 8), .inl (0, 8), .inl (0, 8), .inl (0, 12), .inl (-2147483648, 2147483647), .inl (0, 999)])) := rfl
theorem TMa_48 : TM[48]? = some (.inr (3, 3, [.inl (0, 1)])) := rfl
def gsM : List Nat := [0, 1, 2, 3, 4, 5, 6, 7, 8, 9, 10, 11, 12, 13, 14, 15, 16, 17, 18, 19, 20, 21, 22, 23, 24, 25, 26, 27, 28, 29, 30, 31, 32, 33, 34, 35, 36, 37, 38, 39, 40, 41, 42, 43, 44, 45, 46, 47, 48]
def supM : List (Nat × Nat) := [(12, 49), (12, 50), (1000, 3), (1000, 5), (1000, 13), (1000, 14), (1000, 15), (1000, 16), (1000, 21)]
/-- the number at a place of the reference's world: group 0 its fields, group g its arrays -/
def vi (ws : va_W) (g j : Nat) : Int := match ws[g]? with
  | some (_, .inr (_, vs)) => (match vs[j]? with
    | some (.int x) => x.toInt
    | _ => 0)
  | some (_, .inl (_, _, .inl f)) => (f j).toInt
  | _ => 0
/-- what a code does to the depth of the pile -/
def dl (x : Int) : Int := if 97 ≤ x ∧ x ≤ 122 then 1 else if x = 126 then 0 else -1
def dep (c : Nat → Int) (f : Nat) : Nat → Int
  | 0 => 0
  | n + 1 => dep c f n + dl (c (f + n))
def wfc (c : Nat → Int) (f t : Nat) : Prop := ∀ n : Nat, f + n < t → (if 97 ≤ c (f + n) ∧ c (f + n) ≤ 122 then 0 ≤ dep c f n ∧ dep c f n < 60 else if c (f + n) = 126 then 1 ≤ dep c f n ∧ dep c f n ≤ 60 else 2 ≤ dep c f n ∧ dep c f n ≤ 60)
def imAU (ws : va_W) : Prop := vi ws 0 49 + vi ws 0 50 ≤ 40
def imSW (ws : va_W) : Prop := ∀ b s k : Nat, b < 2 → (s : Int) < vi ws 5 b → (k : Int) < vi ws 13 (5 * b + s) → vi ws 14 (8 * (5 * b + s) + k) < vi ws 3 b
def imWF (ws : va_W) : Prop := ∀ b : Nat, b < 2 → wfc (vi ws 21) (vi ws 15 b).toNat (vi ws 16 b).toNat
def imSh (ws : va_W) : Prop := (∃ a vs, ws[0]? = some (a, .inr (12, vs))) ∧ ∀ g ∈ [3, 5, 13, 14, 15, 16, 21], ∃ a x, ws[g]? = some (a, .inl x)
def IM (ws : va_W) : Prop := imSh ws ∧ imAU ws ∧ imSW ws ∧ imWF ws
theorem vi_arr {gs : List Nat} {T : List fx_G} {cy : Nat → ClassId} {I : va_W → Prop} {md : List (Nat × Nat)} {w w' : va_W} {g j : Nat} (hgs : gs[g]? = some g) (h : fx_sm (gs, T, cy, I) md w w') (hm : (1000, g) ∉ md) (hw : ∃ a x, w[g]? = some (a, .inl x)) : vi w' g j = vi w g j := by
  obtain ⟨a, x, hx⟩ := hw
  have h2 := h.2 (g) a g x hx hgs hm
  unfold vi
  rw [h2, hx]
theorem vi_fld {gs : List Nat} {T : List fx_G} {cy : Nat → ClassId} {I : va_W → Prop} {md : List (Nat × Nat)} {w w' : va_W} {g j c : Nat} (h : fx_sm (gs, T, cy, I) md w w') (hm : (c, j) ∉ md) (hw : ∃ a vs, w[g]? = some (a, .inr (c, vs))) : vi w' g j = vi w g j := by
  obtain ⟨a, vs, hx⟩ := hw
  obtain ⟨vs', h2, h3⟩ := h.1 (g) a c vs hx
  unfold vi
  rw [h2, hx]
  simp only [h3 j hm]
theorem gs_ok : ∀ g ∈ [3, 5, 13, 14, 15, 16, 21], gsM[g]? = some g := by decide +kernel
theorem im_fr {cy : Nat → ClassId} {md : List (Nat × Nat)} (hmd : (md.all fun q => !supM.contains q) = true) : fx_fr (gsM, TM, cy, IM) md := by
  intro w w' hs hI
  obtain ⟨⟨hs0, hsg⟩, h1, h2, h3⟩ := hI
  have hn : ∀ q ∈ supM, q ∉ md := fun q hq hm => by
    have := List.all_eq_true.mp hmd q hm
    simp only [Bool.not_eq_true', List.contains_eq_mem, decide_eq_false_iff_not] at this
    exact this hq
  have ar : ∀ g ∈ [3, 5, 13, 14, 15, 16, 21], (1000, g) ∈ supM := by decide +kernel
  have va : ∀ g ∈ [3, 5, 13, 14, 15, 16, 21], ∀ j, vi w' g j = vi w g j := fun g hg j => vi_arr (gs_ok g hg) hs (hn _ (ar g hg)) (hsg g hg)
  have f1 : vi w' 0 49 = vi w 0 49 := vi_fld (c := 12) hs (hn _ (by decide +kernel)) hs0
  have f2 : vi w' 0 50 = vi w 0 50 := vi_fld (c := 12) hs (hn _ (by decide +kernel)) hs0
  refine ⟨⟨?_, fun g hg => ?_⟩, ?_, ?_, ?_⟩
  · obtain ⟨a, vs, hx⟩ := hs0
    obtain ⟨vs', h, -⟩ := hs.1 _ a 12 vs hx
    exact ⟨a, vs', h⟩
  · obtain ⟨a, x, hx⟩ := hsg g hg
    exact ⟨a, x, hs.2 _ a g x hx (gs_ok g hg) (hn _ (ar g hg))⟩
  · unfold imAU; rw [f1, f2]; exact h1
  · intro b s k hb hs1 hk1
    rw [va 5 (by decide)] at hs1
    rw [va 13 (by decide)] at hk1
    rw [va 14 (by decide), va 3 (by decide)]
    exact h2 b s k hb hs1 hk1
  · intro b hb
    have e : vi w' 21 = vi w 21 := funext fun j => va 21 (by decide) j
    rw [e, va 15 (by decide), va 16 (by decide)]
    exact h3 b hb
theorem im_frA {cy : Nat → ClassId} {md : List (Nat × Nat)} (hmd : (md.all fun q => !(q.1 == 1000) || !supM.contains q) = true) : ∀ g, (1000, g) ∈ md → fx_fr (gsM, TM, cy, IM) [(1000, g)] := fun g hg => im_fr (by
  have := List.all_eq_true.mp hmd _ hg
  simpa using this)
theorem im_frF {cy : Nat → ClassId} {pl : List (Nat × Nat × Nat × Nat)} (hmd : (pl.all fun q => !supM.contains (q.2.1, q.2.2.1)) = true) : ∀ q ∈ pl, fx_fr (gsM, TM, cy, IM) [(q.2.1, q.2.2.1)] := fun q hq => im_fr (by
  have := List.all_eq_true.mp hmd _ hq
  simpa using this)
theorem im_lift {cy : Nat → ClassId} {ad : List Nat} {c : fx_C} (hmd : (c.2.2.2.all fun q => !supM.contains q) = true) : ∀ (av : List Value) (w w' : va_W) (rv : Option Value) (po : fx_P), fx_ty (gsM, TM, cy, IM) ad c.1 av → fx_wo (gsM, TM, cy, IM) ad w → fx_wo (gsM, TM, cy, IM) ad w' → fx_sm (gsM, TM, cy, IM) c.2.2.2 w w' → po ∈ c.2.2.1 → fx_po (gsM, TM, cy, IM) ad po av w' rv → IM w → IM w' :=
  fun _ w w' _ _ _ _ _ hs _ _ hI => im_fr hmd w w' hs hI

