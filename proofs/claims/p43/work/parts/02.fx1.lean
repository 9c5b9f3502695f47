-- intervals of what is reckoned
def fx_top : Int × Int := (fx_lo32, fx_hi32)
def fx_nm (lo hi : Int) : Int × Int := if fx_lo32 ≤ lo ∧ hi ≤ fx_hi32 then (lo, hi) else fx_top
def fx_is (i : Int × Int) (x : Int32) : Prop := i.1 ≤ x.toInt ∧ x.toInt ≤ i.2
theorem fx_top_ok (x : Int32) : fx_is fx_top x := fx_r32 x
theorem fx_nm_ok {x : Int32} {z lo hi : Int} (hx : x.toInt = z.bmod (2 ^ 32)) (h1 : lo ≤ z) (h2 : z ≤ hi) : fx_is (fx_nm lo hi) x := by
  unfold fx_nm
  split
  · rename_i hc
    have e := fx_bm (z := z) (by omega) (by omega)
    unfold fx_is
    rw [hx, e]
    exact ⟨h1, h2⟩
  · exact fx_top_ok x
theorem fx_p0 (k : Nat) : (0 : Int) ≤ 2 ^ k := by
  have h := Int.natCast_nonneg (2 ^ k)
  push_cast at h
  exact h
def fx_mn (a b c d : Int) : Int := min (min a b) (min c d)
def fx_mx (a b c d : Int) : Int := max (max a b) (max c d)
def fx_bin (o : Instr) (i j : Int × Int) : Option (Int × Int) := match o with
  | .iadd => some (fx_nm (i.1 + j.1) (i.2 + j.2))
  | .isub => some (fx_nm (i.1 - j.2) (i.2 - j.1))
  | .imul => some (fx_nm (fx_mn (i.1 * j.1) (i.1 * j.2) (i.2 * j.1) (i.2 * j.2)) (fx_mx (i.1 * j.1) (i.1 * j.2) (i.2 * j.1) (i.2 * j.2)))
  | .iand => if i.1 = i.2 ∧ j.1 = j.2 ∧ 0 ≤ i.1 ∧ 0 ≤ j.1 then some (((i.1.toNat &&& j.1.toNat : Nat) : Int), ((i.1.toNat &&& j.1.toNat : Nat) : Int)) else if 0 ≤ j.1 then some (0, j.2) else if 0 ≤ i.1 then some (0, i.2) else some fx_top
  | .ior => if 0 ≤ i.1 ∧ 0 ≤ j.1 then (if i.2 < 4096 ∧ j.2 < 4096 then some (0, 4095) else some (0, fx_hi32)) else some fx_top
  | .ixor => if 0 ≤ i.1 ∧ 0 ≤ j.1 then (if i.2 < 4096 ∧ j.2 < 4096 then some (0, 4095) else some (0, fx_hi32)) else some fx_top
  | .ishl => if 0 ≤ i.1 ∧ 0 ≤ j.1 ∧ j.2 ≤ 30 ∧ i.2 * 2 ^ j.2.toNat ≤ fx_hi32 then some (i.1 * 2 ^ j.1.toNat, i.2 * 2 ^ j.2.toNat) else some fx_top
  | .ishr => if 0 ≤ i.1 then (if j.1 = j.2 ∧ 0 ≤ j.1 ∧ j.1 ≤ 31 then some (i.1 / 2 ^ j.1.toNat, i.2 / 2 ^ j.1.toNat) else some (0, i.2)) else some fx_top
  | .iushr => some fx_top
  | .idiv => if 1 ≤ j.1 ∨ j.2 ≤ -1 then (if 0 ≤ i.1 ∧ 1 ≤ j.1 then (if j.1 = j.2 then some (i.1 / j.1, i.2 / j.1) else some (0, i.2)) else some fx_top) else none
  | .irem => if 1 ≤ j.1 ∨ j.2 ≤ -1 then (if 0 ≤ i.1 ∧ 1 ≤ j.1 then some (0, min i.2 (j.2 - 1)) else some fx_top) else none
  | _ => none
theorem fx_nat {y : Int32} (h : 0 ≤ y.toInt) : y.toInt = (y.toBitVec.toNat : Int) ∧ y.toBitVec.toNat < 2 ^ 31 := by
  have e : y.toInt = y.toBitVec.toInt := rfl
  rw [e, BitVec.toInt_eq_toNat_cond] at h ⊢
  have hl := y.toBitVec.isLt
  split at h
  · rename_i hc
    rw [if_pos hc]
    exact ⟨rfl, by omega⟩
  · omega
theorem fx_ofnat {y : Int32} (h : y.toBitVec.toNat < 2 ^ 31) : y.toInt = (y.toBitVec.toNat : Int) := by
  have e : y.toInt = y.toBitVec.toInt := rfl
  rw [e, BitVec.toInt_eq_toNat_cond, if_pos (by omega)]
theorem fx_and {x y : Int32} (h : 0 ≤ y.toInt) : 0 ≤ (x &&& y).toInt ∧ (x &&& y).toInt ≤ y.toInt := by
  obtain ⟨h1, h2⟩ := fx_nat h
  have e : (x &&& y).toBitVec.toNat = x.toBitVec.toNat &&& y.toBitVec.toNat := by
    rw [Int32.toBitVec_and, BitVec.toNat_and]
  have hle : (x &&& y).toBitVec.toNat ≤ y.toBitVec.toNat := by rw [e]; exact Nat.and_le_right
  rw [fx_ofnat (y := x &&& y) (by omega), h1]
  omega
theorem fx_andc (x y : Int32) : x &&& y = y &&& x := Int32.and_comm x y
theorem fx_or {x y : Int32} (n : Nat) (hn : n ≤ 31) (hx : 0 ≤ x.toInt) (hy : 0 ≤ y.toInt) (h1 : x.toInt < 2 ^ n) (h2 : y.toInt < 2 ^ n) : 0 ≤ (x ||| y).toInt ∧ (x ||| y).toInt < 2 ^ n := by
  obtain ⟨a1, a2⟩ := fx_nat hx
  obtain ⟨b1, b2⟩ := fx_nat hy
  have e : (x ||| y).toBitVec.toNat = x.toBitVec.toNat ||| y.toBitVec.toNat := by
    rw [Int32.toBitVec_or, BitVec.toNat_or]
  have hl : x.toBitVec.toNat ||| y.toBitVec.toNat < 2 ^ n := Nat.or_lt_two_pow (by rw [a1] at h1; exact_mod_cast h1) (by rw [b1] at h2; exact_mod_cast h2)
  have hp : 2 ^ n ≤ 2 ^ 31 := Nat.pow_le_pow_right (by omega) hn
  rw [fx_ofnat (y := x ||| y) (by omega), e]
  exact ⟨by omega, by exact_mod_cast hl⟩
theorem fx_xor {x y : Int32} (n : Nat) (hn : n ≤ 31) (hx : 0 ≤ x.toInt) (hy : 0 ≤ y.toInt) (h1 : x.toInt < 2 ^ n) (h2 : y.toInt < 2 ^ n) : 0 ≤ (x ^^^ y).toInt ∧ (x ^^^ y).toInt < 2 ^ n := by
  obtain ⟨a1, a2⟩ := fx_nat hx
  obtain ⟨b1, b2⟩ := fx_nat hy
  have e : (x ^^^ y).toBitVec.toNat = x.toBitVec.toNat ^^^ y.toBitVec.toNat := by
    rw [Int32.toBitVec_xor, BitVec.toNat_xor]
  have hl : x.toBitVec.toNat ^^^ y.toBitVec.toNat < 2 ^ n := Nat.xor_lt_two_pow (by rw [a1] at h1; exact_mod_cast h1) (by rw [b1] at h2; exact_mod_cast h2)
  have hp : 2 ^ n ≤ 2 ^ 31 := Nat.pow_le_pow_right (by omega) hn
  rw [fx_ofnat (y := x ^^^ y) (by omega), e]
  exact ⟨by omega, by exact_mod_cast hl⟩
theorem fx_m1 {a x b y : Int} (h1 : a ≤ x) (h2 : x ≤ b) : min (a * y) (b * y) ≤ x * y ∧ x * y ≤ max (a * y) (b * y) := by
  by_cases hy : 0 ≤ y
  · have g1 := Int.mul_le_mul_of_nonneg_right h1 hy
    have g2 := Int.mul_le_mul_of_nonneg_right h2 hy
    omega
  · have g1 := Int.mul_le_mul_of_nonpos_right h1 (show y ≤ 0 by omega)
    have g2 := Int.mul_le_mul_of_nonpos_right h2 (show y ≤ 0 by omega)
    omega
theorem fx_m2 {a c y d : Int} (h1 : c ≤ y) (h2 : y ≤ d) : min (a * c) (a * d) ≤ a * y ∧ a * y ≤ max (a * c) (a * d) := by
  have h := fx_m1 (y := a) h1 h2
  rw [Int.mul_comm c, Int.mul_comm d, Int.mul_comm y] at h
  exact h
theorem fx_iadd {i j k : Int × Int} {x y : Int32} (h : fx_bin .iadd i j = some k) (hx : fx_is i x) (hy : fx_is j y) : fx_is k (x + y) := by
  simp only [fx_bin, Option.some.injEq] at h
  subst h
  exact fx_nm_ok (Int32.toInt_add x y) (by have := hx.1; have := hy.1; omega) (by have := hx.2; have := hy.2; omega)
theorem fx_isub {i j k : Int × Int} {x y : Int32} (h : fx_bin .isub i j = some k) (hx : fx_is i x) (hy : fx_is j y) : fx_is k (x - y) := by
  simp only [fx_bin, Option.some.injEq] at h
  subst h
  exact fx_nm_ok (Int32.toInt_sub x y) (by have := hx.1; have := hy.2; omega) (by have := hx.2; have := hy.1; omega)
theorem fx_imul {i j k : Int × Int} {x y : Int32} (h : fx_bin .imul i j = some k) (hx : fx_is i x) (hy : fx_is j y) : fx_is k (x * y) := by
  simp only [fx_bin, Option.some.injEq] at h
  subst h
  have g := fx_m1 (y := y.toInt) hx.1 hx.2
  have g1 := fx_m2 (a := i.1) hy.1 hy.2
  have g2 := fx_m2 (a := i.2) hy.1 hy.2
  refine fx_nm_ok (Int32.toInt_mul x y) ?_ ?_
  · unfold fx_mn; omega
  · unfold fx_mx; omega
theorem fx_iand {i j k : Int × Int} {x y : Int32} (h : fx_bin .iand i j = some k) (hx : fx_is i x) (hy : fx_is j y) : fx_is k (x &&& y) := by
  simp only [fx_bin] at h
  split at h
  · rename_i hc
    obtain ⟨d1, d2, d3, d4⟩ := hc
    cases h
    have a1 := hx.1; have a2 := hx.2; have b1 := hy.1; have b2 := hy.2
    obtain ⟨u1, u2⟩ := fx_nat (y := x) (by omega)
    obtain ⟨v1, v2⟩ := fx_nat (y := y) (by omega)
    have e : (x &&& y).toBitVec.toNat = x.toBitVec.toNat &&& y.toBitVec.toNat := by
      rw [Int32.toBitVec_and, BitVec.toNat_and]
    have hle : (x &&& y).toBitVec.toNat ≤ y.toBitVec.toNat := by rw [e]; exact Nat.and_le_right
    have e1 : i.1.toNat = x.toBitVec.toNat := by omega
    have e2 : j.1.toNat = y.toBitVec.toNat := by omega
    unfold fx_is
    rw [fx_ofnat (y := x &&& y) (by omega), e, e1, e2]
    exact ⟨Int.le_refl _, Int.le_refl _⟩
  split at h
  · cases h
    have g := fx_and (x := x) (y := y) (by have := hy.1; omega)
    exact ⟨g.1, by have := hy.2; simp only []; omega⟩
  · split at h
    · cases h
      have g := fx_and (x := y) (y := x) (by have := hx.1; omega)
      rw [fx_andc]
      exact ⟨g.1, by have := hx.2; simp only []; omega⟩
    · cases h; exact fx_top_ok _
theorem fx_ior {i j k : Int × Int} {x y : Int32} (h : fx_bin .ior i j = some k) (hx : fx_is i x) (hy : fx_is j y) : fx_is k (x ||| y) := by
  simp only [fx_bin] at h
  have a1 := hx.1; have a2 := hx.2; have b1 := hy.1; have b2 := hy.2
  split at h
  · split at h
    · cases h
      have g := fx_or (x := x) (y := y) 12 (by omega) (by omega) (by omega) (by omega) (by omega)
      exact ⟨g.1, by simp only []; omega⟩
    · cases h
      have r1 := fx_r32 x; have r2 := fx_r32 y
      unfold fx_hi32 at r1 r2
      have g := fx_or (x := x) (y := y) 31 (by omega) (by omega) (by omega) (by omega) (by omega)
      exact ⟨g.1, (fx_r32 _).2⟩
  · cases h; exact fx_top_ok _
theorem fx_ixor {i j k : Int × Int} {x y : Int32} (h : fx_bin .ixor i j = some k) (hx : fx_is i x) (hy : fx_is j y) : fx_is k (x ^^^ y) := by
  simp only [fx_bin] at h
  have a1 := hx.1; have a2 := hx.2; have b1 := hy.1; have b2 := hy.2
  split at h
  · split at h
    · cases h
      have g := fx_xor (x := x) (y := y) 12 (by omega) (by omega) (by omega) (by omega) (by omega)
      exact ⟨g.1, by simp only []; omega⟩
    · cases h
      have r1 := fx_r32 x; have r2 := fx_r32 y
      unfold fx_hi32 at r1 r2
      have g := fx_xor (x := x) (y := y) 31 (by omega) (by omega) (by omega) (by omega) (by omega)
      exact ⟨g.1, (fx_r32 _).2⟩
  · cases h; exact fx_top_ok _
theorem fx_sm32 : ∀ n, n < 32 → ((nI n &&& 31).toBitVec.smod 32).toNat = n := by decide +kernel
theorem fx_ishl {i j k : Int × Int} {x y : Int32} (h : fx_bin .ishl i j = some k) (hx : fx_is i x) (hy : fx_is j y) : fx_is k (x <<< (y &&& 31)) := by
  simp only [fx_bin] at h
  have a1 := hx.1; have a2 := hx.2; have b1 := hy.1; have b2 := hy.2
  split at h
  · rename_i hc
    cases h
    obtain ⟨c1, c2, c3, c4⟩ := hc
    obtain ⟨n, hn, rfl⟩ := nI_of (x := y) (by rw [Int32.lt_iff_toInt_lt]; show ¬ _ < (0 : Int); omega)
    rw [nI_toInt hn] at b1 b2
    have hn30 : n ≤ 30 := by omega
    have e := pk_shl x (nI n &&& 31) n (fx_sm32 n (by omega))
    obtain ⟨d1, d2⟩ := fx_nat (y := x) (by omega)
    have p1 : 2 ^ j.1.toNat ≤ 2 ^ n := Nat.pow_le_pow_right (by omega) (by omega)
    have p2 : 2 ^ n ≤ 2 ^ j.2.toNat := Nat.pow_le_pow_right (by omega) (by omega)
    have q1 : i.1 * 2 ^ j.1.toNat ≤ x.toInt * 2 ^ n := Int.mul_le_mul a1 (by exact_mod_cast p1) (fx_p0 _) (by omega)
    have q2 : x.toInt * 2 ^ n ≤ i.2 * 2 ^ j.2.toNat := Int.mul_le_mul a2 (by exact_mod_cast p2) (fx_p0 _) (by omega)
    have q3 : x.toBitVec.toNat * 2 ^ n < 2 ^ 31 := by
      have : (x.toBitVec.toNat : Int) * 2 ^ n ≤ fx_hi32 := by rw [← d1]; omega
      unfold fx_hi32 at this
      have h2 : ((x.toBitVec.toNat * 2 ^ n : Nat) : Int) ≤ 2147483647 := by push_cast; exact this
      omega
    rw [Nat.mod_eq_of_lt (by omega)] at e
    have e2 := fx_ofnat (y := x <<< (nI n &&& 31)) (by rw [e]; exact q3)
    rw [e] at e2
    unfold fx_is
    rw [e2]
    push_cast
    rw [← d1]
    exact ⟨q1, q2⟩
  · cases h; exact fx_top_ok _
theorem fx_ishr {i j k : Int × Int} {x y : Int32} (h : fx_bin .ishr i j = some k) (hx : fx_is i x) (hy : fx_is j y) : fx_is k (x >>> (y &&& 31)) := by
  simp only [fx_bin] at h
  have a1 := hx.1; have a2 := hx.2; have b1 := hy.1; have b2 := hy.2
  split at h
  · split at h
    · rename_i hc
      obtain ⟨c1, c2, c3⟩ := hc
      cases h
      obtain ⟨n, hn, rfl⟩ := nI_of (x := y) (by rw [Int32.lt_iff_toInt_lt]; show ¬ _ < (0 : Int); omega)
      rw [nI_toInt hn] at b1 b2
      have e := pk_shr x (nI n &&& 31) n (fx_sm32 n (by omega))
      have en : j.1.toNat = n := by omega
      unfold fx_is
      rw [e, Int.shiftRight_eq_div_pow, en]
      have hp : (0 : Int) < 2 ^ n := by
        have h := Nat.two_pow_pos n
        have h2 : (0 : Int) < ((2 ^ n : Nat) : Int) := by omega
        push_cast at h2
        exact h2
      have q1 := Int.ediv_le_ediv hp a1
      have q2 := Int.ediv_le_ediv hp a2
      push_cast
      exact ⟨q1, q2⟩
    cases h
    have e := pk_shr x (y &&& 31) _ rfl
    unfold fx_is
    rw [e, Int.shiftRight_eq_div_pow]
    have h0 : 0 ≤ x.toInt := by omega
    exact ⟨Int.ediv_nonneg h0 (fx_p0 _), Int.le_trans (Int.ediv_le_self _ h0) a2⟩
  · cases h; exact fx_top_ok _
theorem fx_idiv {i j k : Int × Int} {x y : Int32} (h : fx_bin .idiv i j = some k) (hx : fx_is i x) (hy : fx_is j y) : fx_is k (x / y) ∧ ¬ y = 0 := by
  simp only [fx_bin] at h
  have a1 := hx.1; have a2 := hx.2; have b1 := hy.1; have b2 := hy.2
  split at h
  · rename_i hc
    have hy0 : ¬ y = 0 := by
      intro hz
      subst hz
      have e : (0 : Int32).toInt = 0 := rfl
      rw [e] at b1 b2
      omega
    refine ⟨?_, hy0⟩
    split at h
    · rename_i hd
      obtain ⟨c1, c2⟩ := hd
      have e : (x / y).toInt = x.toInt / y.toInt := by
        rw [Int32.toInt_div, Int.tdiv_eq_ediv_of_nonneg (by omega)]
        have h0 : 0 ≤ x.toInt := by omega
        have g1 : 0 ≤ x.toInt / y.toInt := Int.ediv_nonneg h0 (by omega)
        have g2 : x.toInt / y.toInt ≤ x.toInt := Int.ediv_le_self _ h0
        have r := fx_r32 x
        exact fx_bm (by unfold fx_lo32; omega) (by omega)
      unfold fx_is
      rw [e]
      split at h
      · rename_i he
        cases h
        have hyc : y.toInt = j.1 := by omega
        rw [hyc]
        exact ⟨Int.ediv_le_ediv (by omega) a1, Int.ediv_le_ediv (by omega) a2⟩
      · cases h
        exact ⟨Int.ediv_nonneg (by omega) (by omega), Int.le_trans (Int.ediv_le_self _ (by omega)) a2⟩
    · cases h; exact fx_top_ok _
  · cases h
theorem fx_irem {i j k : Int × Int} {x y : Int32} (h : fx_bin .irem i j = some k) (hx : fx_is i x) (hy : fx_is j y) : fx_is k (x - x / y * y) ∧ ¬ y = 0 := by
  simp only [fx_bin] at h
  have a1 := hx.1; have a2 := hx.2; have b1 := hy.1; have b2 := hy.2
  split at h
  · rename_i hc
    have hy0 : ¬ y = 0 := by
      intro hz
      subst hz
      have e : (0 : Int32).toInt = 0 := rfl
      rw [e] at b1 b2
      omega
    refine ⟨?_, hy0⟩
    split at h
    · rename_i hd
      obtain ⟨c1, c2⟩ := hd
      cases h
      obtain ⟨n, hn, rfl⟩ := nI_of (x := x) (by rw [Int32.lt_iff_toInt_lt]; show ¬ _ < (0 : Int); omega)
      obtain ⟨d, hd, rfl⟩ := nI_of (x := y) (by rw [Int32.lt_iff_toInt_lt]; show ¬ _ < (0 : Int); omega)
      rw [nI_toInt hn] at a1 a2
      rw [nI_toInt hd] at b1 b2
      have hd0 : 0 < d := by omega
      have g1 : n % d < d := Nat.mod_lt _ hd0
      have g2 : n % d ≤ n := Nat.mod_le _ _
      rw [pk_rem hn hd0 hd]
      unfold fx_is
      rw [nI_toInt (by omega)]
      exact ⟨by simp only []; omega, by simp only []; omega⟩
    · cases h; exact fx_top_ok _
  · cases h
-- what a test tells
def fx_rfo (G : List fx_T) (a : Option fx_V) (i : Int × Int) : Option (List fx_T) := match a with
  | none => some G
  | some a => fx_rf G a i
def fx_two (G : List fx_T) (a b : Option fx_V) (i j : Int × Int) : Option (List fx_T) := (fx_rfo G a i).bind fun G1 => fx_rfo G1 b j
def fx_ltl (G : List fx_T) (a b : Option fx_V) (i j : Int × Int) : List (List fx_T) := (fx_two G a b (fx_lo32, j.2 - 1) (i.1 + 1, fx_hi32)).toList
def fx_gtl (G : List fx_T) (a b : Option fx_V) (i j : Int × Int) : List (List fx_T) := (fx_two G a b (j.1 + 1, fx_hi32) (fx_lo32, i.2 - 1)).toList
def fx_cm (o : ClassFile.Cond) (G : List fx_T) (a b : Option fx_V) (i j : Int × Int) : List (List fx_T) := match o with
  | .lt => fx_ltl G a b i j
  | .gt => fx_gtl G a b i j
  | .ge => (fx_two G a b (j.1, fx_hi32) (fx_lo32, i.2)).toList
  | .le => (fx_two G a b (fx_lo32, j.2) (i.1, fx_hi32)).toList
  | .eq => (fx_two G a b j i).toList
  | .ne => if (j.1 = j.2 ∧ (j.1 = 0 ∨ i.1 = j.1 ∨ i.2 = j.1)) ∨ (i.1 = i.2 ∧ (j.1 = i.1 ∨ j.2 = i.1)) then fx_ltl G a b i j ++ fx_gtl G a b i j else [G]
def fx_ch (o : ClassFile.Cond) (x y : Int32) : Prop := match o with
  | .lt => x.toInt < y.toInt
  | .gt => y.toInt < x.toInt
  | .ge => y.toInt ≤ x.toInt
  | .le => x.toInt ≤ y.toInt
  | .eq => x = y
  | .ne => ¬ x = y
def fx_vo (r : List Value) (a : Option fx_V) (x : Int32) : Prop := match a with
  | none => True
  | some a => fx_v r a = some (.int x)
theorem fx_rfo_ok {Y : fx_Y} {ad : List Nat} {G : List fx_T} {r : List Value} {a : Option fx_V} {i : Int × Int} {x : Int32} (h : fx_ty Y ad G r) (hv : fx_vo r a x) (h1 : i.1 ≤ x.toInt) (h2 : x.toInt ≤ i.2) : ∃ G', fx_rfo G a i = some G' ∧ fx_ty Y ad G' r := by
  cases a with
  | none => exact ⟨G, rfl, h⟩
  | some a => exact fx_rf_ok h hv h1 h2
theorem fx_two_ok {Y : fx_Y} {ad : List Nat} {G : List fx_T} {r : List Value} {a b : Option fx_V} {i j : Int × Int} {x y : Int32} (h : fx_ty Y ad G r) (hv : fx_vo r a x) (hw : fx_vo r b y) (h1 : i.1 ≤ x.toInt) (h2 : x.toInt ≤ i.2) (h3 : j.1 ≤ y.toInt) (h4 : y.toInt ≤ j.2) : ∃ G', G' ∈ (fx_two G a b i j).toList ∧ fx_ty Y ad G' r := by
  obtain ⟨G1, e1, t1⟩ := fx_rfo_ok h hv h1 h2
  obtain ⟨G2, e2, t2⟩ := fx_rfo_ok t1 hw h3 h4
  refine ⟨G2, ?_, t2⟩
  unfold fx_two
  rw [e1, Option.bind_some, e2]
  simp
theorem fx_cm_ok {Y : fx_Y} {ad : List Nat} {G : List fx_T} {r : List Value} {a b : Option fx_V} {i j : Int × Int} {x y : Int32} (o : ClassFile.Cond) (h : fx_ty Y ad G r) (hv : fx_vo r a x) (hw : fx_vo r b y) (hi : fx_is i x) (hj : fx_is j y) (hc : fx_ch o x y) : ∃ G', G' ∈ fx_cm o G a b i j ∧ fx_ty Y ad G' r := by
  have r1 := fx_r32 x; have r2 := fx_r32 y
  have a1 := hi.1; have a2 := hi.2; have b1 := hj.1; have b2 := hj.2
  have ltl : x.toInt < y.toInt → ∃ G', G' ∈ fx_ltl G a b i j ∧ fx_ty Y ad G' r := fun hc => fx_two_ok h hv hw (by simp only []; omega) (by simp only []; omega) (by simp only []; omega) (by simp only []; omega)
  have gtl : y.toInt < x.toInt → ∃ G', G' ∈ fx_gtl G a b i j ∧ fx_ty Y ad G' r := fun hc => fx_two_ok h hv hw (by simp only []; omega) (by simp only []; omega) (by simp only []; omega) (by simp only []; omega)
  cases o with
  | lt => exact ltl hc
  | gt => exact gtl hc
  | ge => simp only [fx_ch] at hc; exact fx_two_ok h hv hw (by simp only []; omega) (by simp only []; omega) (by simp only []; omega) (by simp only []; omega)
  | le => simp only [fx_ch] at hc; exact fx_two_ok h hv hw (by simp only []; omega) (by simp only []; omega) (by simp only []; omega) (by simp only []; omega)
  | eq => simp only [fx_ch] at hc; subst hc; exact fx_two_ok h hv hw b1 b2 a1 a2
  | ne =>
    simp only [fx_ch] at hc
    simp only [fx_cm]
    split
    · have hne : x.toInt ≠ y.toInt := fun e => hc (Int32.toInt_inj.mp e)
      rcases Int.lt_or_gt_of_ne hne with g | g
      · obtain ⟨G', m1, t1⟩ := ltl g
        exact ⟨G', List.mem_append.mpr (Or.inl m1), t1⟩
      · obtain ⟨G', m1, t1⟩ := gtl g
        exact ⟨G', List.mem_append.mpr (Or.inr m1), t1⟩
    · exact ⟨G, List.mem_singleton.mpr rfl, h⟩
