theorem dX12_firstOf_3 : decode cX12_firstOf 3 = .ok (.iload 4, 2) := by decide +kernel
theorem dX12_firstOf_5 : decode cX12_firstOf 5 = .ok (.iload_n 3, 1) := by decide +kernel
theorem dX12_firstOf_6 : decode cX12_firstOf 6 = .ok (.if_icmp .ge 17, 3) := by decide +kernel
theorem dX12_firstOf_23 : decode cX12_firstOf 23 = .ok (.iload 4, 2) := by decide +kernel
theorem dX12_firstOf_25 : decode cX12_firstOf 25 = .ok (.ireturn, 1) := by decide +kernel
theorem dX12_firstOf_9 : decode cX12_firstOf 9 = .ok (.aload_n 1, 1) := by decide +kernel
theorem dX12_firstOf_10 : decode cX12_firstOf 10 = .ok (.iload 4, 2) := by decide +kernel
theorem dX12_firstOf_12 : decode cX12_firstOf 12 = .ok (.iaload, 1) := by decide +kernel
theorem dX12_firstOf_13 : decode cX12_firstOf 13 = .ok (.iload_n 0, 1) := by decide +kernel
theorem dX12_firstOf_14 : decode cX12_firstOf 14 = .ok (.if_icmp .eq 9, 3) := by decide +kernel
theorem dX12_firstOf_17 : decode cX12_firstOf 17 = .ok (.iinc 4 1, 3) := by decide +kernel
theorem dX12_firstOf_20 : decode cX12_firstOf 20 = .ok (.goto (-17), 3) := by decide +kernel
theorem dX12_firstOf_0 : decode cX12_firstOf 0 = .ok (.iload_n 2, 1) := by decide +kernel
theorem dX12_firstOf_1 : decode cX12_firstOf 1 = .ok (.istore 4, 2) := by decide +kernel
theorem dX12_layShared_14 : decode cX12_layShared 14 = .ok (.iload_n 2, 1) := by decide +kernel
theorem dX12_layShared_15 : decode cX12_layShared 15 = .ok (.ifCond .lt 119, 3) := by decide +kernel
theorem dX12_layShared_134 : decode cX12_layShared 134 = .ok (.iinc 1 (-1), 3) := by decide +kernel
theorem dX12_layShared_137 : decode cX12_layShared 137 = .ok (.goto (-132), 3) := by decide +kernel
theorem dX12_layShared_18 : decode cX12_layShared 18 = .ok (.iconst 0, 1) := by decide +kernel
theorem dX12_layShared_19 : decode cX12_layShared 19 = .ok (.istore_n 3, 1) := by decide +kernel
theorem dX12_layShared_20 : decode cX12_layShared 20 = .ok (.iload_n 1, 1) := by decide +kernel
theorem dX12_layShared_21 : decode cX12_layShared 21 = .ok (.aload_n 0, 1) := by decide +kernel
theorem dX12_layShared_22 : decode cX12_layShared 22 = .ok (.getfield 384, 3) := by decide +kernel
theorem dX12_layShared_25 : decode cX12_layShared 25 = .ok (.if_icmp .ge 91, 3) := by decide +kernel
theorem dX12_layShared_116 : decode cX12_layShared 116 = .ok (.aload_n 0, 1) := by decide +kernel
theorem dX12_layShared_117 : decode cX12_layShared 117 = .ok (.getfield 119, 3) := by decide +kernel
theorem dX12_layShared_120 : decode cX12_layShared 120 = .ok (.bipush 13, 2) := by decide +kernel
theorem dX12_layShared_122 : decode cX12_layShared 122 = .ok (.iload_n 1, 1) := by decide +kernel
theorem dX12_layShared_123 : decode cX12_layShared 123 = .ok (.imul, 1) := by decide +kernel
theorem dX12_layShared_124 : decode cX12_layShared 124 = .ok (.iload_n 2, 1) := by decide +kernel
theorem dX12_layShared_125 : decode cX12_layShared 125 = .ok (.iadd, 1) := by decide +kernel
theorem dX12_layShared_126 : decode cX12_layShared 126 = .ok (.iload_n 3, 1) := by decide +kernel
theorem dX12_layShared_127 : decode cX12_layShared 127 = .ok (.iastore, 1) := by decide +kernel
theorem dX12_layShared_128 : decode cX12_layShared 128 = .ok (.iinc 2 (-1), 3) := by decide +kernel
theorem dX12_layShared_131 : decode cX12_layShared 131 = .ok (.goto (-117), 3) := by decide +kernel
theorem dX12_layShared_28 : decode cX12_layShared 28 = .ok (.iload_n 2, 1) := by decide +kernel
theorem dX12_layShared_29 : decode cX12_layShared 29 = .ok (.aload_n 0, 1) := by decide +kernel
theorem dX12_layShared_30 : decode cX12_layShared 30 = .ok (.getfield 390, 3) := by decide +kernel
theorem dX12_layShared_33 : decode cX12_layShared 33 = .ok (.if_icmp .ge 83, 3) := by decide +kernel
theorem dX12_layShared_36 : decode cX12_layShared 36 = .ok (.aload_n 0, 1) := by decide +kernel
theorem dX12_layShared_37 : decode cX12_layShared 37 = .ok (.getfield 119, 3) := by decide +kernel
theorem dX12_layShared_40 : decode cX12_layShared 40 = .ok (.bipush 13, 2) := by decide +kernel
theorem dX12_layShared_42 : decode cX12_layShared 42 = .ok (.iload_n 1, 1) := by decide +kernel
theorem dX12_layShared_43 : decode cX12_layShared 43 = .ok (.iconst 1, 1) := by decide +kernel
theorem dX12_layShared_44 : decode cX12_layShared 44 = .ok (.iadd, 1) := by decide +kernel
theorem dX12_layShared_45 : decode cX12_layShared 45 = .ok (.imul, 1) := by decide +kernel
theorem dX12_layShared_46 : decode cX12_layShared 46 = .ok (.iload_n 2, 1) := by decide +kernel
theorem dX12_layShared_47 : decode cX12_layShared 47 = .ok (.iadd, 1) := by decide +kernel
theorem dX12_layShared_48 : decode cX12_layShared 48 = .ok (.iaload, 1) := by decide +kernel
theorem dX12_layShared_49 : decode cX12_layShared 49 = .ok (.istore 4, 2) := by decide +kernel
theorem dX12_layShared_51 : decode cX12_layShared 51 = .ok (.aload_n 0, 1) := by decide +kernel
theorem dX12_layShared_52 : decode cX12_layShared 52 = .ok (.getfield 119, 3) := by decide +kernel
theorem dX12_layShared_55 : decode cX12_layShared 55 = .ok (.bipush 13, 2) := by decide +kernel
theorem dX12_layShared_57 : decode cX12_layShared 57 = .ok (.iload_n 1, 1) := by decide +kernel
theorem dX12_layShared_58 : decode cX12_layShared 58 = .ok (.imul, 1) := by decide +kernel
theorem dX12_layShared_59 : decode cX12_layShared 59 = .ok (.iload_n 2, 1) := by decide +kernel
theorem dX12_layShared_60 : decode cX12_layShared 60 = .ok (.iadd, 1) := by decide +kernel
theorem dX12_layShared_61 : decode cX12_layShared 61 = .ok (.iconst 1, 1) := by decide +kernel
theorem dX12_layShared_62 : decode cX12_layShared 62 = .ok (.iadd, 1) := by decide +kernel
theorem dX12_layShared_63 : decode cX12_layShared 63 = .ok (.iaload, 1) := by decide +kernel
theorem dX12_layShared_64 : decode cX12_layShared 64 = .ok (.istore 5, 2) := by decide +kernel
theorem dX12_layShared_66 : decode cX12_layShared 66 = .ok (.aload_n 0, 1) := by decide +kernel
theorem dX12_layShared_67 : decode cX12_layShared 67 = .ok (.getfield 95, 3) := by decide +kernel
theorem dX12_layShared_70 : decode cX12_layShared 70 = .ok (.iload_n 1, 1) := by decide +kernel
theorem dX12_layShared_71 : decode cX12_layShared 71 = .ok (.iaload, 1) := by decide +kernel
theorem dX12_layShared_72 : decode cX12_layShared 72 = .ok (.aload_n 0, 1) := by decide +kernel
theorem dX12_layShared_73 : decode cX12_layShared 73 = .ok (.getfield 98, 3) := by decide +kernel
theorem dX12_layShared_76 : decode cX12_layShared 76 = .ok (.iload_n 2, 1) := by decide +kernel
theorem dX12_layShared_77 : decode cX12_layShared 77 = .ok (.iaload, 1) := by decide +kernel
theorem dX12_layShared_78 : decode cX12_layShared 78 = .ok (.if_icmp .ne 23, 3) := by decide +kernel
theorem dX12_layShared_101 : decode cX12_layShared 101 = .ok (.iload 4, 2) := by decide +kernel
theorem dX12_layShared_103 : decode cX12_layShared 103 = .ok (.iload 5, 2) := by decide +kernel
theorem dX12_layShared_105 : decode cX12_layShared 105 = .ok (.if_icmp .le 8, 3) := by decide +kernel
theorem dX12_layShared_113 : decode cX12_layShared 113 = .ok (.iload 5, 2) := by decide +kernel
theorem dX12_layShared_115 : decode cX12_layShared 115 = .ok (.istore_n 3, 1) := by decide +kernel
theorem dX12_layShared_108 : decode cX12_layShared 108 = .ok (.iload 4, 2) := by decide +kernel
theorem dX12_layShared_110 : decode cX12_layShared 110 = .ok (.goto 5, 3) := by decide +kernel
theorem dX12_layShared_81 : decode cX12_layShared 81 = .ok (.aload_n 0, 1) := by decide +kernel
theorem dX12_layShared_82 : decode cX12_layShared 82 = .ok (.getfield 119, 3) := by decide +kernel
theorem dX12_layShared_85 : decode cX12_layShared 85 = .ok (.bipush 13, 2) := by decide +kernel
theorem dX12_layShared_87 : decode cX12_layShared 87 = .ok (.iload_n 1, 1) := by decide +kernel
theorem dX12_layShared_88 : decode cX12_layShared 88 = .ok (.iconst 1, 1) := by decide +kernel
theorem dX12_layShared_89 : decode cX12_layShared 89 = .ok (.iadd, 1) := by decide +kernel
theorem dX12_layShared_90 : decode cX12_layShared 90 = .ok (.imul, 1) := by decide +kernel
theorem dX12_layShared_91 : decode cX12_layShared 91 = .ok (.iload_n 2, 1) := by decide +kernel
theorem dX12_layShared_92 : decode cX12_layShared 92 = .ok (.iadd, 1) := by decide +kernel
theorem dX12_layShared_93 : decode cX12_layShared 93 = .ok (.iconst 1, 1) := by decide +kernel
theorem dX12_layShared_94 : decode cX12_layShared 94 = .ok (.iadd, 1) := by decide +kernel
theorem dX12_layShared_95 : decode cX12_layShared 95 = .ok (.iaload, 1) := by decide +kernel
theorem dX12_layShared_96 : decode cX12_layShared 96 = .ok (.iconst 1, 1) := by decide +kernel
theorem dX12_layShared_97 : decode cX12_layShared 97 = .ok (.iadd, 1) := by decide +kernel
theorem dX12_layShared_98 : decode cX12_layShared 98 = .ok (.goto 17, 3) := by decide +kernel
theorem dX12_layShared_5 : decode cX12_layShared 5 = .ok (.iload_n 1, 1) := by decide +kernel
theorem dX12_layShared_6 : decode cX12_layShared 6 = .ok (.ifCond .lt 134, 3) := by decide +kernel
theorem dX12_layShared_140 : decode cX12_layShared 140 = .ok (.return_, 1) := by decide +kernel
theorem dX12_layShared_9 : decode cX12_layShared 9 = .ok (.aload_n 0, 1) := by decide +kernel
theorem dX12_layShared_10 : decode cX12_layShared 10 = .ok (.getfield 390, 3) := by decide +kernel
theorem dX12_layShared_13 : decode cX12_layShared 13 = .ok (.istore_n 2, 1) := by decide +kernel
theorem dX12_layShared_0 : decode cX12_layShared 0 = .ok (.aload_n 0, 1) := by decide +kernel
theorem dX12_layShared_1 : decode cX12_layShared 1 = .ok (.getfield 384, 3) := by decide +kernel
theorem dX12_layShared_4 : decode cX12_layShared 4 = .ok (.istore_n 1, 1) := by decide +kernel
-- longest rows in common: pure
def ix2 (a b : Int) : Nat := (13 * a + b).toNat
def isF (o : Nat → Int) (w a L x : Int) : Prop := a ≤ x ∧ x ≤ L ∧ (∀ j : Nat, a ≤ (j : Int) → (j : Int) < x → ¬ o j = w) ∧ (x < L → o x.toNat = w)
def SHe (L1 L2 : Int) (o t N : Nat → Int) (a b : Int) : Prop := (N (ix2 a b) = if a < L1 ∧ b < L2 then (if o a.toNat = t b.toNat then N (ix2 (a + 1) (b + 1)) + 1 else max (N (ix2 (a + 1) b)) (N (ix2 a (b + 1)))) else 0) ∧ 0 ≤ N (ix2 a b) ∧ N (ix2 a b) ≤ L1 - a
def rg2 (L1 L2 a b : Int) : Prop := 0 ≤ a ∧ a ≤ L1 ∧ 0 ≤ b ∧ b ≤ L2
def SAL (L1 L2 : Int) (o t N : Nat → Int) (p : Int) : Prop := ∀ a b, rg2 L1 L2 a b → p < 13 * a + b → SHe L1 L2 o t N a b
theorem SHe_keep {L1 L2 : Int} {o t N N' : Nat → Int} {P a b : Int} (hr : rg2 L1 L2 a b) (hP : P < 13 * a + b) (hk : ∀ x : Nat, (x : Int) ≠ P → N' x = N x) (h : SHe L1 L2 o t N a b) : SHe L1 L2 o t N' a b := by
  obtain ⟨r1, r2, r3, r4⟩ := hr
  have k1 : N' (ix2 a b) = N (ix2 a b) := hk _ (by unfold ix2; omega)
  have k2 : N' (ix2 (a + 1) (b + 1)) = N (ix2 (a + 1) (b + 1)) := hk _ (by unfold ix2; omega)
  have k3 : N' (ix2 (a + 1) b) = N (ix2 (a + 1) b) := hk _ (by unfold ix2; omega)
  have k4 : N' (ix2 a (b + 1)) = N (ix2 a (b + 1)) := hk _ (by unfold ix2; omega)
  unfold SHe at *
  rw [k1, k2, k3, k4]
  exact h
theorem SAL_next {L1 L2 : Int} {o t N N' : Nat → Int} {a b : Int} (hL : L2 ≤ 12) (hr : rg2 L1 L2 a b) (hk : ∀ x : Nat, (x : Int) ≠ 13 * a + b → N' x = N x) (h : SAL L1 L2 o t N (13 * a + b)) (hv : SHe L1 L2 o t N' a b) : SAL L1 L2 o t N' (13 * a + (b + (-1))) := by
  intro a' b' hr' hlt
  by_cases hg : 13 * a + b < 13 * a' + b'
  · exact SHe_keep hr' hg hk (h a' b' hr' hg)
  · obtain ⟨r1, r2, r3, r4⟩ := hr
    obtain ⟨s1, s2, s3, s4⟩ := hr'
    have e1 : a' = a := by omega
    have e2 : b' = b := by omega
    rw [e1, e2]; exact hv
theorem SAL_row {L1 L2 : Int} {o t N : Nat → Int} {a : Int} (hL : L2 ≤ 12) (h : SAL L1 L2 o t N (13 * a + (-1))) : SAL L1 L2 o t N (13 * (a + (-1)) + L2) := fun a' b' hr hlt => h a' b' hr (by obtain ⟨r1, r2, r3, r4⟩ := hr; omega)
theorem SAL_top {L1 L2 : Int} {o t N : Nat → Int} : SAL L1 L2 o t N (13 * L1 + L2) := fun a' b' hr hlt => by obtain ⟨r1, r2, r3, r4⟩ := hr; omega
theorem SHe_new {L1 L2 : Int} {o t N N' : Nat → Int} {a b z : Int} (hL : L2 ≤ 12) (hr : rg2 L1 L2 a b) (hk : ∀ x : Nat, (x : Int) ≠ 13 * a + b → N' x = N x) (h : SAL L1 L2 o t N (13 * a + b)) (hz : N' (ix2 a b) = z) (hv : z = if a < L1 ∧ b < L2 then (if o a.toNat = t b.toNat then N (ix2 (a + 1) (b + 1)) + 1 else max (N (ix2 (a + 1) b)) (N (ix2 a (b + 1)))) else 0) : SHe L1 L2 o t N' a b := by
  obtain ⟨r1, r2, r3, r4⟩ := hr
  have k2 : N' (ix2 (a + 1) (b + 1)) = N (ix2 (a + 1) (b + 1)) := hk _ (by unfold ix2; omega)
  have k3 : N' (ix2 (a + 1) b) = N (ix2 (a + 1) b) := hk _ (by unfold ix2; omega)
  have k4 : N' (ix2 a (b + 1)) = N (ix2 a (b + 1)) := hk _ (by unfold ix2; omega)
  unfold SHe
  rw [k2, k3, k4, hz]
  refine ⟨hv, ?_⟩
  by_cases hc : a < L1 ∧ b < L2
  · rw [if_pos hc] at hv
    have s1 := (h (a + 1) (b + 1) ⟨by omega, by omega, by omega, by omega⟩ (by omega)).2
    have s2 := (h (a + 1) b ⟨by omega, by omega, by omega, by omega⟩ (by omega)).2
    have s3 := (h a (b + 1) ⟨by omega, by omega, by omega, by omega⟩ (by omega)).2
    split at hv <;> omega
  · rw [if_neg hc] at hv
    omega
section LCS
variable {L1 L2 : Int} {o t N : Nat → Int}
theorem lc_eq (h : SAL L1 L2 o t N (-1)) {a b : Int} (hr : rg2 L1 L2 a b) : SHe L1 L2 o t N a b := h a b hr (by obtain ⟨r1, r2, r3, r4⟩ := hr; omega)
theorem lc_step (h : SAL L1 L2 o t N (-1)) : ∀ (n : Nat) (a b : Int), rg2 L1 L2 a b → ((L1 - a) + (L2 - b)).toNat < n → (a < L1 → N (ix2 (a + 1) b) ≤ N (ix2 a b) ∧ N (ix2 a b) ≤ N (ix2 (a + 1) b) + 1) ∧ (b < L2 → N (ix2 a (b + 1)) ≤ N (ix2 a b) ∧ N (ix2 a b) ≤ N (ix2 a (b + 1)) + 1) := by
  intro n
  induction n with
  | zero => intro a b hr hn; omega
  | succ n ih =>
    intro a b hr hn
    have hr0 := hr
    obtain ⟨r1, r2, r3, r4⟩ := hr
    have e0 := lc_eq h hr0
    by_cases hc : a < L1 ∧ b < L2
    · have i1 := ih (a + 1) b ⟨by omega, by omega, by omega, by omega⟩ (by omega)
      have i2 := ih a (b + 1) ⟨by omega, by omega, by omega, by omega⟩ (by omega)
      have j1 := i1.2 hc.2
      have j2 := i2.1 hc.1
      have e1 := e0.1
      rw [if_pos hc] at e1
      split at e1 <;> exact ⟨fun _ => by omega, fun _ => by omega⟩
    · have e1 := e0.1
      rw [if_neg hc] at e1
      refine ⟨fun q => ?_, fun q => ?_⟩
      · have e2 := (lc_eq h (a := a + 1) (b := b) ⟨by omega, by omega, by omega, by omega⟩).1
        rw [if_neg (by omega)] at e2
        omega
      · have e2 := (lc_eq h (a := a) (b := b + 1) ⟨by omega, by omega, by omega, by omega⟩).1
        rw [if_neg (by omega)] at e2
        omega
theorem lc_monoA (h : SAL L1 L2 o t N (-1)) {b : Int} : ∀ (n : Nat) (a : Int), 0 ≤ a → a + n ≤ L1 → 0 ≤ b → b ≤ L2 → N (ix2 (a + n) b) ≤ N (ix2 a b)
  | 0, a, h1, h2, h3, h4 => by simp
  | n + 1, a, h1, h2, h3, h4 => by
    have q1 := lc_monoA h n (a + 1) (by omega) (by omega) h3 h4
    have q2 := (lc_step h _ a b ⟨h1, by omega, h3, h4⟩ (Nat.lt_succ_self _)).1 (by omega)
    have e : a + ((n + 1 : Nat) : Int) = a + 1 + (n : Int) := by omega
    rw [e]
    omega
theorem lc_monoB (h : SAL L1 L2 o t N (-1)) {a : Int} : ∀ (n : Nat) (b : Int), 0 ≤ b → b + n ≤ L2 → 0 ≤ a → a ≤ L1 → N (ix2 a (b + n)) ≤ N (ix2 a b)
  | 0, b, h1, h2, h3, h4 => by simp
  | n + 1, b, h1, h2, h3, h4 => by
    have q1 := lc_monoB h n (b + 1) (by omega) (by omega) h3 h4
    have q2 := (lc_step h _ a b ⟨h3, h4, h1, by omega⟩ (Nat.lt_succ_self _)).2 (by omega)
    have e : b + ((n + 1 : Nat) : Int) = b + 1 + (n : Int) := by omega
    rw [e]
    omega
theorem lc_mono (h : SAL L1 L2 o t N (-1)) {a b x y : Int} (h1 : 0 ≤ a) (h2 : a ≤ x) (h3 : x ≤ L1) (h4 : 0 ≤ b) (h5 : b ≤ y) (h6 : y ≤ L2) : N (ix2 x y) ≤ N (ix2 a b) := by
  have q1 := lc_monoA h (b := b) (x - a).toNat a h1 (by omega) h4 (by omega)
  have q2 := lc_monoB h (a := x) (y - b).toNat b h4 (by omega) (by omega) h3
  have e1 : a + ((x - a).toNat : Int) = x := by omega
  have e2 : b + ((y - b).toNat : Int) = y := by omega
  rw [e1] at q1
  rw [e2] at q2
  omega
theorem lc_pair (h : SAL L1 L2 o t N (-1)) {a b x y : Int} (h1 : 0 ≤ a) (h2 : a ≤ x) (h3 : x < L1) (h4 : 0 ≤ b) (h5 : b ≤ y) (h6 : y < L2) (e : o x.toNat = t y.toNat) : N (ix2 (x + 1) (y + 1)) + 1 ≤ N (ix2 a b) := by
  have q := lc_mono h h1 h2 (by omega) h4 h5 (by omega) (x := x) (y := y)
  have e0 := (lc_eq h (a := x) (b := y) ⟨by omega, by omega, by omega, by omega⟩).1
  rw [if_pos ⟨h3, h6⟩, if_pos e] at e0
  omega
/-- a word by which a longest row goes on -/
theorem lc_ex (h : SAL L1 L2 o t N (-1)) : ∀ (n : Nat) (a b : Int), rg2 L1 L2 a b → ((L1 - a) + (L2 - b)).toNat < n → 0 < N (ix2 a b) → ∃ w x y, isF o w a L1 x ∧ isF t w b L2 y ∧ x < L1 ∧ y < L2 ∧ N (ix2 (x + 1) (y + 1)) = N (ix2 a b) - 1 := by
  intro n
  induction n with
  | zero => intro a b hr hn; omega
  | succ n ih =>
    intro a b hr hn hp
    obtain ⟨r1, r2, r3, r4⟩ := hr
    have e0 := (lc_eq h (a := a) (b := b) ⟨r1, r2, r3, r4⟩).1
    by_cases hc : a < L1 ∧ b < L2
    · obtain ⟨c1, c2⟩ := hc
      rw [if_pos ⟨c1, c2⟩] at e0
      by_cases he : o a.toNat = t b.toNat
      · rw [if_pos he] at e0
        exact ⟨o a.toNat, a, b, ⟨by omega, by omega, fun j h1 h2 => by omega, fun _ => rfl⟩, ⟨by omega, by omega, fun j h1 h2 => by omega, fun _ => he.symm⟩, c1, c2, by omega⟩
      · rw [if_neg he] at e0
        by_cases hm : N (ix2 a (b + 1)) ≤ N (ix2 (a + 1) b)
        · have e1 : N (ix2 a b) = N (ix2 (a + 1) b) := by omega
          obtain ⟨w, x, y, hx, hy, x1, y1, hN⟩ := ih (a + 1) b ⟨by omega, by omega, r3, r4⟩ (by omega) (by omega)
          obtain ⟨f1, f2, f3, f4⟩ := hx
          by_cases hw : o a.toNat = w
          · have g1 := lc_mono h (a := a + 1) (x := x + 1) (b := y + 1) (y := y + 1) (by omega) (by omega) (by omega) (by have := hy.1; omega) (by omega) (by omega)
            have g2 := lc_pair h (a := a) (x := a) (b := b) (y := y) r1 (by omega) c1 r3 hy.1 y1 (by rw [hw]; exact (hy.2.2.2 y1).symm)
            exact ⟨w, a, y, ⟨by omega, by omega, fun j h1 h2 => by omega, fun _ => hw⟩, hy, c1, y1, by omega⟩
          · refine ⟨w, x, y, ⟨by omega, f2, fun j h1 h2 => ?_, f4⟩, hy, x1, y1, by omega⟩
            by_cases hj : (j : Int) = a
            · have : j = a.toNat := by omega
              rw [this]; exact hw
            · exact f3 j (by omega) h2
        · have e1 : N (ix2 a b) = N (ix2 a (b + 1)) := by omega
          obtain ⟨w, x, y, hx, hy, x1, y1, hN⟩ := ih a (b + 1) ⟨r1, r2, by omega, by omega⟩ (by omega) (by omega)
          obtain ⟨f1, f2, f3, f4⟩ := hy
          by_cases hw : t b.toNat = w
          · have g1 := lc_mono h (a := x + 1) (x := x + 1) (b := b + 1) (y := y + 1) (by have := hx.1; omega) (by omega) (by omega) (by omega) (by omega) (by omega)
            have g2 := lc_pair h (a := a) (x := x) (b := b) (y := b) r1 hx.1 x1 r3 (by omega) c2 (by rw [hw]; exact hx.2.2.2 x1)
            exact ⟨w, x, b, hx, ⟨by omega, by omega, fun j h1 h2 => by omega, fun _ => hw⟩, x1, c2, by omega⟩
          · refine ⟨w, x, y, hx, ⟨by omega, f2, fun j h1 h2 => ?_, f4⟩, x1, y1, by omega⟩
            by_cases hj : (j : Int) = b
            · have : j = b.toNat := by omega
              rw [this]; exact hw
            · exact f3 j (by omega) h2
    · rw [if_neg hc] at e0
      omega
theorem isF_u {o : Nat → Int} {w a L x x' : Int} (h0 : 0 ≤ a) (h : isF o w a L x) (h' : isF o w a L x') : x = x' := by
  obtain ⟨a1, a2, a3, a4⟩ := h
  obtain ⟨b1, b2, b3, b4⟩ := h'
  by_cases h1 : x < x'
  · exact absurd (a4 (by omega)) (b3 x.toNat (by omega) (by omega))
  · by_cases h2 : x' < x
    · exact absurd (b4 (by omega)) (a3 x'.toNat (by omega) (by omega))
    · omega
end LCS

set_option maxRecDepth 100000 in
set_option maxHeartbeats 4000000 in
theorem h_firstOf27 {l : Launch} {E : (Nat → Prop) → State → Prop} {ad : List Nat} {D : va_G} {cy : Nat → ClassId} (h : fx_env E D classes (tys cy) nestW) (b0 : Nat) (v a L : Int) (hb0 : ad[27]? = some b0) (hv : rg v) (ha : 0 ≤ a ∧ a ≤ L) (hL : L ≤ 12) : hM l yX12_firstOf cX12_firstOf 5 (some .int) ({ frames := 0, cells := 0, slots := 0, locals := 0 }) E ad D cy (fun av ws => av = [zv v, .ref b0, zv a, zv L] ∧ True) (fun _ ws rv ws1 => ws = ws1 ∧ ∃ x, rv = some (zv x) ∧ isF (vi ws 27) v a L x) := by
  refine hM_of h (by decide) ?_
  intro av ws p e s m below meth c hwo hnd hpre hlocks hr C
  obtain ⟨rfl, hpre⟩ := hpre
  refine ⟨Nat.le_of_ble_eq_true rfl, ?_⟩
  simp only [rg] at hv
  refine hr_pick (lv' := [(0, zv v), (1, .ref b0), (2, zv a), (3, zv L)]) [0, 1, 2, 3] rfl ?_
  have loop : ∀ (q : Nat) (k : Int), (L - k).toNat < q → a ≤ k → k ≤ L → (∀ j : Nat, a ≤ (j : Int) → (j : Int) < k → ¬ vi ws 27 j = v) → HW l E ad D cy (va_A ws s.heap.size) s.heap p e ({ frames := 0, cells := 0, slots := 0, locals := 0 }) s m ([zv v, .ref b0, zv a, zv L]).toArray below meth c (MQ below (hQ ad D cy (fun _ ws rv ws1 => ws = ws1 ∧ ∃ x, rv = some (zv x) ∧ isF (vi ws 27) v a L x) ([zv v, .ref b0, zv a, zv L]) ws s.heap.size) ([zv v, .ref b0, zv a, zv L]).toArray s 0 0 (va_A ws s.heap.size)) cX12_firstOf 5 yX12_firstOf.cls 3 [(0, zv v), (1, .ref b0), (3, zv L), (4, zv k)] [] ws := by
    intro q
    induction q with
    | zero => intro k hq; omega
    | succ q ih =>
      intro k hq h1 h2 hj
      refine hr_il C 3 dX12_firstOf_3 rfl rfl ?_
      refine hr_iln C 2 dX12_firstOf_5 rfl rfl rfl ?_
      refine hr_cmp C 23 dX12_firstOf_6 (by decide) ⟨by omega, by omega⟩ ⟨by omega, by omega⟩ rfl (fun c1 => ?_) (fun c1 => ?_)
      · have c1 : (L : Int) ≤ k := c1
        refine hr_il C 3 dX12_firstOf_23 rfl rfl ?_
        exact hr_iret C hlocks hr dX12_firstOf_25 ⟨rfl, k, rfl, h1, h2, hj, fun q => by omega⟩
      · have c1 : (k : Int) < L := c1
        refine hr_aln C 1 dX12_firstOf_9 rfl rfl rfl ?_
        refine hr_il C 3 dX12_firstOf_10 rfl rfl ?_
        refine hr_ald C hb0 TMa_27 (by omega) (by omega) (by decide) dX12_firstOf_12 rfl (fun b2 b3 => ?_)
        have b2 := gp1 b2
        simp only [rg] at b3
        refine hr_iln C 0 dX12_firstOf_13 rfl rfl rfl ?_
        refine hr_cmp C 23 dX12_firstOf_14 (by decide) ⟨by omega, by omega⟩ ⟨by omega, by omega⟩ rfl (fun c4 => ?_) (fun c4 => ?_)
        · have c4 : (vi ws 27 (Int.toNat (k)) : Int) = v := c4
          refine hr_il C 3 dX12_firstOf_23 rfl rfl ?_
          exact hr_iret C hlocks hr dX12_firstOf_25 ⟨rfl, k, rfl, h1, h2, hj, fun q => by omega⟩
        · have c4 : ¬ (vi ws 27 (Int.toNat (k)) : Int) = v := c4
          refine hr_inc (lv' := [(4, zv (k + 1)), (0, zv (v)), (1, .ref b0), (3, zv (L))]) C 3 dX12_firstOf_17 rfl (by decide) rfl rfl ?_
          refine hr_goto C 3 dX12_firstOf_20 (by decide) ?_
          refine hr_pick (lv' := [(0, zv (v)), (1, .ref b0), (3, zv (L)), (4, zv (k + 1))]) [1, 2, 3, 0] rfl ?_
          exact ih _ (by omega) (by omega) (by omega) (fun j g1 g2 => by
            by_cases ej : (j : Int) = k
            · have : j = Int.toNat k := by omega
              rw [this]; omega
            · exact hj j g1 (by omega))
  refine hr_iln C 2 dX12_firstOf_0 rfl rfl rfl ?_
  refine hr_is (lv' := [(4, zv (a)), (0, zv (v)), (1, .ref b0), (2, zv (a)), (3, zv (L))]) C dX12_firstOf_1 (by decide) rfl rfl ?_
  refine hr_pick (lv' := [(0, zv (v)), (1, .ref b0), (3, zv (L)), (4, zv (a))]) [1, 2, 4, 0] rfl ?_
  exact loop _ _ (Nat.lt_succ_self _) (by omega) (by omega) (fun j g1 g2 => by omega)
set_option maxRecDepth 100000 in
set_option maxHeartbeats 4000000 in
theorem h_firstOf28 {l : Launch} {E : (Nat → Prop) → State → Prop} {ad : List Nat} {D : va_G} {cy : Nat → ClassId} (h : fx_env E D classes (tys cy) nestW) (b0 : Nat) (v a L : Int) (hb0 : ad[28]? = some b0) (hv : rg v) (ha : 0 ≤ a ∧ a ≤ L) (hL : L ≤ 12) : hM l yX12_firstOf cX12_firstOf 5 (some .int) ({ frames := 0, cells := 0, slots := 0, locals := 0 }) E ad D cy (fun av ws => av = [zv v, .ref b0, zv a, zv L] ∧ True) (fun _ ws rv ws1 => ws = ws1 ∧ ∃ x, rv = some (zv x) ∧ isF (vi ws 28) v a L x) := by
  refine hM_of h (by decide) ?_
  intro av ws p e s m below meth c hwo hnd hpre hlocks hr C
  obtain ⟨rfl, hpre⟩ := hpre
  refine ⟨Nat.le_of_ble_eq_true rfl, ?_⟩
  simp only [rg] at hv
  refine hr_pick (lv' := [(0, zv v), (1, .ref b0), (2, zv a), (3, zv L)]) [0, 1, 2, 3] rfl ?_
  have loop : ∀ (q : Nat) (k : Int), (L - k).toNat < q → a ≤ k → k ≤ L → (∀ j : Nat, a ≤ (j : Int) → (j : Int) < k → ¬ vi ws 28 j = v) → HW l E ad D cy (va_A ws s.heap.size) s.heap p e ({ frames := 0, cells := 0, slots := 0, locals := 0 }) s m ([zv v, .ref b0, zv a, zv L]).toArray below meth c (MQ below (hQ ad D cy (fun _ ws rv ws1 => ws = ws1 ∧ ∃ x, rv = some (zv x) ∧ isF (vi ws 28) v a L x) ([zv v, .ref b0, zv a, zv L]) ws s.heap.size) ([zv v, .ref b0, zv a, zv L]).toArray s 0 0 (va_A ws s.heap.size)) cX12_firstOf 5 yX12_firstOf.cls 3 [(0, zv v), (1, .ref b0), (3, zv L), (4, zv k)] [] ws := by
    intro q
    induction q with
    | zero => intro k hq; omega
    | succ q ih =>
      intro k hq h1 h2 hj
      refine hr_il C 3 dX12_firstOf_3 rfl rfl ?_
      refine hr_iln C 2 dX12_firstOf_5 rfl rfl rfl ?_
      refine hr_cmp C 23 dX12_firstOf_6 (by decide) ⟨by omega, by omega⟩ ⟨by omega, by omega⟩ rfl (fun c1 => ?_) (fun c1 => ?_)
      · have c1 : (L : Int) ≤ k := c1
        refine hr_il C 3 dX12_firstOf_23 rfl rfl ?_
        exact hr_iret C hlocks hr dX12_firstOf_25 ⟨rfl, k, rfl, h1, h2, hj, fun q => by omega⟩
      · have c1 : (k : Int) < L := c1
        refine hr_aln C 1 dX12_firstOf_9 rfl rfl rfl ?_
        refine hr_il C 3 dX12_firstOf_10 rfl rfl ?_
        refine hr_ald C hb0 TMa_28 (by omega) (by omega) (by decide) dX12_firstOf_12 rfl (fun b2 b3 => ?_)
        have b2 := gp1 b2
        simp only [rg] at b3
        refine hr_iln C 0 dX12_firstOf_13 rfl rfl rfl ?_
        refine hr_cmp C 23 dX12_firstOf_14 (by decide) ⟨by omega, by omega⟩ ⟨by omega, by omega⟩ rfl (fun c4 => ?_) (fun c4 => ?_)
        · have c4 : (vi ws 28 (Int.toNat (k)) : Int) = v := c4
          refine hr_il C 3 dX12_firstOf_23 rfl rfl ?_
          exact hr_iret C hlocks hr dX12_firstOf_25 ⟨rfl, k, rfl, h1, h2, hj, fun q => by omega⟩
        · have c4 : ¬ (vi ws 28 (Int.toNat (k)) : Int) = v := c4
          refine hr_inc (lv' := [(4, zv (k + 1)), (0, zv (v)), (1, .ref b0), (3, zv (L))]) C 3 dX12_firstOf_17 rfl (by decide) rfl rfl ?_
          refine hr_goto C 3 dX12_firstOf_20 (by decide) ?_
          refine hr_pick (lv' := [(0, zv (v)), (1, .ref b0), (3, zv (L)), (4, zv (k + 1))]) [1, 2, 3, 0] rfl ?_
          exact ih _ (by omega) (by omega) (by omega) (fun j g1 g2 => by
            by_cases ej : (j : Int) = k
            · have : j = Int.toNat k := by omega
              rw [this]; omega
            · exact hj j g1 (by omega))
  refine hr_iln C 2 dX12_firstOf_0 rfl rfl rfl ?_
  refine hr_is (lv' := [(4, zv (a)), (0, zv (v)), (1, .ref b0), (2, zv (a)), (3, zv (L))]) C dX12_firstOf_1 (by decide) rfl rfl ?_
  refine hr_pick (lv' := [(0, zv (v)), (1, .ref b0), (3, zv (L)), (4, zv (a))]) [1, 2, 4, 0] rfl ?_
  exact loop _ _ (Nat.lt_succ_self _) (by omega) (by omega) (fun j g1 g2 => by omega)
set_option maxRecDepth 100000 in
set_option maxHeartbeats 4000000 in
theorem h_layShared {l : Launch} {E : (Nat → Prop) → State → Prop} {ad : List Nat} {D : va_G} {cy : Nat → ClassId} (h : fx_env E D classes (tys cy) nestW) (r : Nat) (L1 L2 : Int) (o t : Nat → Int) (hr0 : ad[0]? = some r) (hL : 0 ≤ L1 ∧ L1 ≤ 12 ∧ 0 ≤ L2 ∧ L2 ≤ 12) : hM l yX12_layShared cX12_layShared 6 none ({ frames := 0, cells := 0, slots := 0, locals := 0 }) E ad D cy (fun av ws => av = [.ref r] ∧ vi ws 0 45 = L1 ∧ vi ws 0 46 = L2 ∧ (∀ j, vi ws 27 j = o j) ∧ ∀ j, vi ws 28 j = t j) (fun _ ws rv ws1 => fx_sm (gsM, TM, cy, fun _ => True) [(1000, 35)] ws ws1 ∧ rv = none ∧ SAL L1 L2 o t (vi ws1 35) (-1)) := by
  refine hM_of h (by decide) ?_
  intro av ws p e s m below meth c hwo hnd hpre hlocks hr C
  obtain ⟨rfl, hpre⟩ := hpre
  refine ⟨Nat.le_of_ble_eq_true rfl, ?_⟩
  refine hr_pick (lv' := [(0, .ref r)]) [0] rfl ?_
  obtain ⟨n1, n2, n3, n4⟩ := hpre
  have all : ∀ q : Nat, (∀ (a b : Int) (w : va_W), (100 * (a + 1) + (b + 1)).toNat < q → 0 ≤ a → a ≤ L1 → -1 ≤ b → b ≤ L2 → fx_wo (gsM, TM, cy, fun _ => True) ad w → fx_sm (gsM, TM, cy, fun _ => True) [(1000, 35)] ws w → SAL L1 L2 o t (vi w 35) (13 * a + b) → HW l E ad D cy (va_A ws s.heap.size) s.heap p e ({ frames := 0, cells := 0, slots := 0, locals := 0 }) s m ([.ref r]).toArray below meth c (MQ below (hQ ad D cy (fun _ ws rv ws1 => fx_sm (gsM, TM, cy, fun _ => True) [(1000, 35)] ws ws1 ∧ rv = none ∧ SAL L1 L2 o t (vi ws1 35) (-1)) ([.ref r]) ws s.heap.size) ([.ref r]).toArray s 0 0 (va_A ws s.heap.size)) cX12_layShared 6 yX12_layShared.cls 14 [(0, .ref r), (1, zv a), (2, zv b)] [] w) ∧ (∀ (a : Int) (w : va_W), (100 * (a + 1) + 50).toNat < q → -1 ≤ a → a ≤ L1 → fx_wo (gsM, TM, cy, fun _ => True) ad w → fx_sm (gsM, TM, cy, fun _ => True) [(1000, 35)] ws w → SAL L1 L2 o t (vi w 35) (13 * a + L2) → HW l E ad D cy (va_A ws s.heap.size) s.heap p e ({ frames := 0, cells := 0, slots := 0, locals := 0 }) s m ([.ref r]).toArray below meth c (MQ below (hQ ad D cy (fun _ ws rv ws1 => fx_sm (gsM, TM, cy, fun _ => True) [(1000, 35)] ws ws1 ∧ rv = none ∧ SAL L1 L2 o t (vi ws1 35) (-1)) ([.ref r]) ws s.heap.size) ([.ref r]).toArray s 0 0 (va_A ws s.heap.size)) cX12_layShared 6 yX12_layShared.cls 5 [(0, .ref r), (1, zv a)] [] w) := by
    intro q
    induction q with
    | zero => exact ⟨fun a b w hq => by omega, fun a w hq => by omega⟩
    | succ q ih =>
      obtain ⟨i2, i1⟩ := ih
      refine ⟨?_, ?_⟩
      · intro a b w hq h1 h2 h3 h4 how sm hal
        refine hr_iln C 2 dX12_layShared_14 rfl rfl rfl ?_
        refine hr_if C 134 dX12_layShared_15 (by decide) ⟨by omega, by omega⟩ rfl (fun c1 => ?_) (fun c1 => ?_)
        · have c1 : (b : Int) < 0 := c1
          refine hr_inc (lv' := [(1, zv (a + (-1))), (0, .ref r), (2, zv (b))]) C 1 dX12_layShared_134 rfl (by decide) rfl rfl ?_
          refine hr_goto C 5 dX12_layShared_137 (by decide) ?_
          refine hr_pick (lv' := [(0, .ref r), (1, zv (a + (-1)))]) [1, 0] rfl ?_
          have e8 : b = -1 := by omega
          rw [e8] at hal
          exact i1 (a + (-1)) w (by omega) (by omega) (by omega) how sm (SAL_row hL.2.2.2 hal)
        · have c1 : (0 : Int) ≤ b := c1
          refine hr_ic C dX12_layShared_18 rfl ?_
          refine hr_isn (lv' := [(3, zv (0)), (0, .ref r), (1, zv (a)), (2, zv (b))]) C dX12_layShared_19 rfl (by decide) rfl rfl ?_
          refine hr_iln C 2 dX12_layShared_20 rfl rfl rfl ?_
          refine hr_aln C 1 dX12_layShared_21 rfl rfl rfl ?_
          refine hr_gI (lo := 0) (hi := 12) C hr0 TM0 rfl fl_X12_384 dX12_layShared_22 rfl (fun b2 b3 => ?_)
          have q4 : vi w 0 45 = vi ws 0 45 := by rw [sm_f hwo how sm (by decide)]
          rw [q4] at b2 b3 ⊢
          refine hr_cmp C 116 dX12_layShared_25 (by decide) ⟨by omega, by omega⟩ ⟨by omega, by omega⟩ rfl (fun c5 => ?_) (fun c5 => ?_)
          · have c5 : (vi ws 0 45 : Int) ≤ a := c5
            refine hr_aln C 1 dX12_layShared_116 rfl rfl rfl ?_
            refine hr_gA (g := 35) C hr0 TM0 rfl (by decide) fl_X12_119 dX12_layShared_117 rfl (fun a6 ha7 => ?_)
            refine hr_bi C dX12_layShared_120 (by decide +kernel) rfl ?_
            refine hr_iln C 2 dX12_layShared_122 rfl rfl rfl ?_
            refine hr_mul C dX12_layShared_123 rfl ?_
            refine hr_iln C 3 dX12_layShared_124 rfl rfl rfl ?_
            refine hr_add C dX12_layShared_125 rfl ?_
            refine hr_iln C 0 dX12_layShared_126 rfl rfl rfl ?_
            refine hr_ast C ha7 TMa_35 (by omega) (by omega) (by decide) ⟨by omega, by omega⟩ (hp1 (by omega) (by omega)) dX12_layShared_127 rfl (fun w8 o9 s10 e11 => ?_)
            refine hr_inc (lv' := [(2, zv (b + (-1))), (3, zv (0)), (0, .ref r), (1, zv (a))]) C 3 dX12_layShared_128 rfl (by decide) rfl rfl ?_
            refine hr_goto C 14 dX12_layShared_131 (by decide) ?_
            have k1 : ∀ x : Nat, (x : Int) ≠ 13 * a + b → vi w8 35 x = vi w 35 x := by intro x hx; rw [e11, if_neg (by omega)]
            have k2 : vi w8 35 (ix2 a b) = 0 := by rw [e11, if_pos ⟨rfl, rfl⟩]
            have hs := SHe_new hL.2.2.2 ⟨h1, h2, by omega, h4⟩ k1 hal k2 (by
              simp only [ix2]
              have e1 := n3 a.toNat
              have e2 := n4 b.toNat
              have e3 : 13 * (a + 1) + (b + 1) = 13 * (a + 1) + b + 1 := by omega
              have e4 : 13 * a + (b + 1) = 13 * a + b + 1 := by omega
              rw [e3, e4]
              first
                | (rw [if_neg (by omega)]; done)
                | (rw [if_pos ⟨by omega, by omega⟩, if_pos (by omega)]; done)
                | (rw [if_pos ⟨by omega, by omega⟩, if_neg (by omega)]; omega))
            refine hr_pick (lv' := [(0, .ref r), (1, zv (a)), (2, zv (b + (-1)))]) [2, 3, 0] rfl ?_
            exact i2 a (b + (-1)) _ (by omega) h1 h2 (by omega) (by omega) o9 (fx_sm_tr (fx_sm_tr fx_sm_refl sm (by decide)) s10 (by decide)) (SAL_next hL.2.2.2 ⟨h1, h2, by omega, h4⟩ k1 hal hs)
          · have c5 : (a : Int) < vi ws 0 45 := c5
            refine hr_iln C 3 dX12_layShared_28 rfl rfl rfl ?_
            refine hr_aln C 1 dX12_layShared_29 rfl rfl rfl ?_
            refine hr_gI (lo := 0) (hi := 12) C hr0 TM0 rfl fl_X12_390 dX12_layShared_30 rfl (fun b12 b13 => ?_)
            have q14 : vi w 0 46 = vi ws 0 46 := by rw [sm_f hwo how sm (by decide)]
            rw [q14] at b12 b13 ⊢
            refine hr_cmp C 116 dX12_layShared_33 (by decide) ⟨by omega, by omega⟩ ⟨by omega, by omega⟩ rfl (fun c15 => ?_) (fun c15 => ?_)
            · have c15 : (vi ws 0 46 : Int) ≤ b := c15
              refine hr_aln C 1 dX12_layShared_116 rfl rfl rfl ?_
              refine hr_gA (g := 35) C hr0 TM0 rfl (by decide) fl_X12_119 dX12_layShared_117 rfl (fun a16 ha17 => ?_)
              refine hr_bi C dX12_layShared_120 (by decide +kernel) rfl ?_
              refine hr_iln C 2 dX12_layShared_122 rfl rfl rfl ?_
              refine hr_mul C dX12_layShared_123 rfl ?_
              refine hr_iln C 3 dX12_layShared_124 rfl rfl rfl ?_
              refine hr_add C dX12_layShared_125 rfl ?_
              refine hr_iln C 0 dX12_layShared_126 rfl rfl rfl ?_
              refine hr_ast C ha17 TMa_35 (by omega) (by omega) (by decide) ⟨by omega, by omega⟩ (hp1 (by omega) (by omega)) dX12_layShared_127 rfl (fun w18 o19 s20 e21 => ?_)
              refine hr_inc (lv' := [(2, zv (b + (-1))), (3, zv (0)), (0, .ref r), (1, zv (a))]) C 3 dX12_layShared_128 rfl (by decide) rfl rfl ?_
              refine hr_goto C 14 dX12_layShared_131 (by decide) ?_
              have k1 : ∀ x : Nat, (x : Int) ≠ 13 * a + b → vi w18 35 x = vi w 35 x := by intro x hx; rw [e21, if_neg (by omega)]
              have k2 : vi w18 35 (ix2 a b) = 0 := by rw [e21, if_pos ⟨rfl, rfl⟩]
              have hs := SHe_new hL.2.2.2 ⟨h1, h2, by omega, h4⟩ k1 hal k2 (by
                simp only [ix2]
                have e1 := n3 a.toNat
                have e2 := n4 b.toNat
                have e3 : 13 * (a + 1) + (b + 1) = 13 * (a + 1) + b + 1 := by omega
                have e4 : 13 * a + (b + 1) = 13 * a + b + 1 := by omega
                rw [e3, e4]
                first
                  | (rw [if_neg (by omega)]; done)
                  | (rw [if_pos ⟨by omega, by omega⟩, if_pos (by omega)]; done)
                  | (rw [if_pos ⟨by omega, by omega⟩, if_neg (by omega)]; omega))
              refine hr_pick (lv' := [(0, .ref r), (1, zv (a)), (2, zv (b + (-1)))]) [2, 3, 0] rfl ?_
              exact i2 a (b + (-1)) _ (by omega) h1 h2 (by omega) (by omega) o19 (fx_sm_tr (fx_sm_tr fx_sm_refl sm (by decide)) s20 (by decide)) (SAL_next hL.2.2.2 ⟨h1, h2, by omega, h4⟩ k1 hal hs)
            · have c15 : (b : Int) < vi ws 0 46 := c15
              refine hr_aln C 1 dX12_layShared_36 rfl rfl rfl ?_
              refine hr_gA (g := 35) C hr0 TM0 rfl (by decide) fl_X12_119 dX12_layShared_37 rfl (fun a22 ha23 => ?_)
              refine hr_bi C dX12_layShared_40 (by decide +kernel) rfl ?_
              refine hr_iln C 2 dX12_layShared_42 rfl rfl rfl ?_
              refine hr_ic C dX12_layShared_43 rfl ?_
              refine hr_add C dX12_layShared_44 rfl ?_
              refine hr_mul C dX12_layShared_45 rfl ?_
              refine hr_iln C 3 dX12_layShared_46 rfl rfl rfl ?_
              refine hr_add C dX12_layShared_47 rfl ?_
              refine hr_ald C ha23 TMa_35 (by omega) (by omega) (by decide) dX12_layShared_48 rfl (fun b24 b25 => ?_)
              have b24 := gp1 b24
              simp only [rg] at b25
              refine hr_is (lv' := [(4, zv (vi w 35 (Int.toNat ((13 * (a + 1)) + b)))), (3, zv (0)), (0, .ref r), (1, zv (a)), (2, zv (b))]) C dX12_layShared_49 (by decide) rfl rfl ?_
              refine hr_aln C 2 dX12_layShared_51 rfl rfl rfl ?_
              refine hr_gA (g := 35) C hr0 TM0 rfl (by decide) fl_X12_119 dX12_layShared_52 rfl (fun a26 ha27 => ?_)
              refine hr_bi C dX12_layShared_55 (by decide +kernel) rfl ?_
              refine hr_iln C 3 dX12_layShared_57 rfl rfl rfl ?_
              refine hr_mul C dX12_layShared_58 rfl ?_
              refine hr_iln C 4 dX12_layShared_59 rfl rfl rfl ?_
              refine hr_add C dX12_layShared_60 rfl ?_
              refine hr_ic C dX12_layShared_61 rfl ?_
              refine hr_add C dX12_layShared_62 rfl ?_
              refine hr_ald C ha27 TMa_35 (by omega) (by omega) (by decide) dX12_layShared_63 rfl (fun b28 b29 => ?_)
              have b28 := gp1 b28
              simp only [rg] at b29
              refine hr_is (lv' := [(5, zv (vi w 35 (Int.toNat ((13 * a) + b + 1)))), (4, zv (vi w 35 (Int.toNat ((13 * (a + 1)) + b)))), (3, zv (0)), (0, .ref r), (1, zv (a)), (2, zv (b))]) C dX12_layShared_64 (by decide) rfl rfl ?_
              refine hr_aln C 3 dX12_layShared_66 rfl rfl rfl ?_
              refine hr_gA (g := 27) C hr0 TM0 rfl (by decide) fl_X12_95 dX12_layShared_67 rfl (fun a30 ha31 => ?_)
              refine hr_iln C 4 dX12_layShared_70 rfl rfl rfl ?_
              refine hr_ald C ha31 TMa_27 (by omega) (by omega) (by decide) dX12_layShared_71 rfl (fun b32 b33 => ?_)
              have b32 := gp1 b32
              have q34 : vi w 27 (Int.toNat (a)) = vi ws 27 (Int.toNat (a)) := by rw [sm_a hwo how sm TMa_27 (by decide)]
              rw [q34] at b32 b33 ⊢
              simp only [rg] at b33
              refine hr_aln C 3 dX12_layShared_72 rfl rfl rfl ?_
              refine hr_gA (g := 28) C hr0 TM0 rfl (by decide) fl_X12_98 dX12_layShared_73 rfl (fun a35 ha36 => ?_)
              refine hr_iln C 5 dX12_layShared_76 rfl rfl rfl ?_
              refine hr_ald C ha36 TMa_28 (by omega) (by omega) (by decide) dX12_layShared_77 rfl (fun b37 b38 => ?_)
              have b37 := gp1 b37
              have q39 : vi w 28 (Int.toNat (b)) = vi ws 28 (Int.toNat (b)) := by rw [sm_a hwo how sm TMa_28 (by decide)]
              rw [q39] at b37 b38 ⊢
              simp only [rg] at b38
              refine hr_cmp C 101 dX12_layShared_78 (by decide) ⟨by omega, by omega⟩ ⟨by omega, by omega⟩ rfl (fun c40 => ?_) (fun c40 => ?_)
              · have c40 : ¬ (vi ws 27 (Int.toNat (a)) : Int) = vi ws 28 (Int.toNat (b)) := c40
                refine hr_il C 1 dX12_layShared_101 rfl rfl ?_
                refine hr_il C 0 dX12_layShared_103 rfl rfl ?_
                refine hr_cmp C 113 dX12_layShared_105 (by decide) ⟨by omega, by omega⟩ ⟨by omega, by omega⟩ rfl (fun c41 => ?_) (fun c41 => ?_)
                · have c41 : (vi w 35 (Int.toNat ((13 * (a + 1)) + b)) : Int) ≤ vi w 35 (Int.toNat ((13 * a) + b + 1)) := c41
                  refine hr_il C 0 dX12_layShared_113 rfl rfl ?_
                  refine hr_isn (lv' := [(3, zv (vi w 35 (Int.toNat ((13 * a) + b + 1)))), (5, zv (vi w 35 (Int.toNat ((13 * a) + b + 1)))), (4, zv (vi w 35 (Int.toNat ((13 * (a + 1)) + b)))), (0, .ref r), (1, zv (a)), (2, zv (b))]) C dX12_layShared_115 rfl (by decide) rfl rfl ?_
                  refine hr_aln C 3 dX12_layShared_116 rfl rfl rfl ?_
                  refine hr_gA (g := 35) C hr0 TM0 rfl (by decide) fl_X12_119 dX12_layShared_117 rfl (fun a42 ha43 => ?_)
                  refine hr_bi C dX12_layShared_120 (by decide +kernel) rfl ?_
                  refine hr_iln C 4 dX12_layShared_122 rfl rfl rfl ?_
                  refine hr_mul C dX12_layShared_123 rfl ?_
                  refine hr_iln C 5 dX12_layShared_124 rfl rfl rfl ?_
                  refine hr_add C dX12_layShared_125 rfl ?_
                  refine hr_iln C 0 dX12_layShared_126 rfl rfl rfl ?_
                  refine hr_ast C ha43 TMa_35 (by omega) (by omega) (by decide) ⟨by omega, by omega⟩ (hp1 (by omega) (by omega)) dX12_layShared_127 rfl (fun w44 o45 s46 e47 => ?_)
                  refine hr_inc (lv' := [(2, zv (b + (-1))), (3, zv (vi w 35 (Int.toNat ((13 * a) + b + 1)))), (5, zv (vi w 35 (Int.toNat ((13 * a) + b + 1)))), (4, zv (vi w 35 (Int.toNat ((13 * (a + 1)) + b)))), (0, .ref r), (1, zv (a))]) C 5 dX12_layShared_128 rfl (by decide) rfl rfl ?_
                  refine hr_goto C 14 dX12_layShared_131 (by decide) ?_
                  have k1 : ∀ x : Nat, (x : Int) ≠ 13 * a + b → vi w44 35 x = vi w 35 x := by intro x hx; rw [e47, if_neg (by omega)]
                  have k2 : vi w44 35 (ix2 a b) = vi w 35 (Int.toNat ((13 * a) + b + 1)) := by rw [e47, if_pos ⟨rfl, rfl⟩]
                  have hs := SHe_new hL.2.2.2 ⟨h1, h2, by omega, h4⟩ k1 hal k2 (by
                    simp only [ix2]
                    have e1 := n3 a.toNat
                    have e2 := n4 b.toNat
                    have e3 : 13 * (a + 1) + (b + 1) = 13 * (a + 1) + b + 1 := by omega
                    have e4 : 13 * a + (b + 1) = 13 * a + b + 1 := by omega
                    rw [e3, e4]
                    first
                      | (rw [if_neg (by omega)]; done)
                      | (rw [if_pos ⟨by omega, by omega⟩, if_pos (by omega)]; done)
                      | (rw [if_pos ⟨by omega, by omega⟩, if_neg (by omega)]; omega))
                  refine hr_pick (lv' := [(0, .ref r), (1, zv (a)), (2, zv (b + (-1)))]) [4, 5, 0] rfl ?_
                  exact i2 a (b + (-1)) _ (by omega) h1 h2 (by omega) (by omega) o45 (fx_sm_tr (fx_sm_tr fx_sm_refl sm (by decide)) s46 (by decide)) (SAL_next hL.2.2.2 ⟨h1, h2, by omega, h4⟩ k1 hal hs)
                · have c41 : (vi w 35 (Int.toNat ((13 * a) + b + 1)) : Int) < vi w 35 (Int.toNat ((13 * (a + 1)) + b)) := c41
                  refine hr_il C 1 dX12_layShared_108 rfl rfl ?_
                  refine hr_goto C 115 dX12_layShared_110 (by decide) ?_
                  refine hr_isn (lv' := [(3, zv (vi w 35 (Int.toNat ((13 * (a + 1)) + b)))), (5, zv (vi w 35 (Int.toNat ((13 * a) + b + 1)))), (4, zv (vi w 35 (Int.toNat ((13 * (a + 1)) + b)))), (0, .ref r), (1, zv (a)), (2, zv (b))]) C dX12_layShared_115 rfl (by decide) rfl rfl ?_
                  refine hr_aln C 3 dX12_layShared_116 rfl rfl rfl ?_
                  refine hr_gA (g := 35) C hr0 TM0 rfl (by decide) fl_X12_119 dX12_layShared_117 rfl (fun a48 ha49 => ?_)
                  refine hr_bi C dX12_layShared_120 (by decide +kernel) rfl ?_
                  refine hr_iln C 4 dX12_layShared_122 rfl rfl rfl ?_
                  refine hr_mul C dX12_layShared_123 rfl ?_
                  refine hr_iln C 5 dX12_layShared_124 rfl rfl rfl ?_
                  refine hr_add C dX12_layShared_125 rfl ?_
                  refine hr_iln C 0 dX12_layShared_126 rfl rfl rfl ?_
                  refine hr_ast C ha49 TMa_35 (by omega) (by omega) (by decide) ⟨by omega, by omega⟩ (hp1 (by omega) (by omega)) dX12_layShared_127 rfl (fun w50 o51 s52 e53 => ?_)
                  refine hr_inc (lv' := [(2, zv (b + (-1))), (3, zv (vi w 35 (Int.toNat ((13 * (a + 1)) + b)))), (5, zv (vi w 35 (Int.toNat ((13 * a) + b + 1)))), (4, zv (vi w 35 (Int.toNat ((13 * (a + 1)) + b)))), (0, .ref r), (1, zv (a))]) C 5 dX12_layShared_128 rfl (by decide) rfl rfl ?_
                  refine hr_goto C 14 dX12_layShared_131 (by decide) ?_
                  have k1 : ∀ x : Nat, (x : Int) ≠ 13 * a + b → vi w50 35 x = vi w 35 x := by intro x hx; rw [e53, if_neg (by omega)]
                  have k2 : vi w50 35 (ix2 a b) = vi w 35 (Int.toNat ((13 * (a + 1)) + b)) := by rw [e53, if_pos ⟨rfl, rfl⟩]
                  have hs := SHe_new hL.2.2.2 ⟨h1, h2, by omega, h4⟩ k1 hal k2 (by
                    simp only [ix2]
                    have e1 := n3 a.toNat
                    have e2 := n4 b.toNat
                    have e3 : 13 * (a + 1) + (b + 1) = 13 * (a + 1) + b + 1 := by omega
                    have e4 : 13 * a + (b + 1) = 13 * a + b + 1 := by omega
                    rw [e3, e4]
                    first
                      | (rw [if_neg (by omega)]; done)
                      | (rw [if_pos ⟨by omega, by omega⟩, if_pos (by omega)]; done)
                      | (rw [if_pos ⟨by omega, by omega⟩, if_neg (by omega)]; omega))
                  refine hr_pick (lv' := [(0, .ref r), (1, zv (a)), (2, zv (b + (-1)))]) [4, 5, 0] rfl ?_
                  exact i2 a (b + (-1)) _ (by omega) h1 h2 (by omega) (by omega) o51 (fx_sm_tr (fx_sm_tr fx_sm_refl sm (by decide)) s52 (by decide)) (SAL_next hL.2.2.2 ⟨h1, h2, by omega, h4⟩ k1 hal hs)
              · have c40 : (vi ws 27 (Int.toNat (a)) : Int) = vi ws 28 (Int.toNat (b)) := c40
                have q1 := (hal (a + 1) (b + 1) ⟨by omega, by omega, by omega, by omega⟩ (by omega)).2
                simp only [ix2] at q1
                rw [show 13 * (a + 1) + (b + 1) = 13 * (a + 1) + b + 1 by omega] at q1
                refine hr_aln C 3 dX12_layShared_81 rfl rfl rfl ?_
                refine hr_gA (g := 35) C hr0 TM0 rfl (by decide) fl_X12_119 dX12_layShared_82 rfl (fun a54 ha55 => ?_)
                refine hr_bi C dX12_layShared_85 (by decide +kernel) rfl ?_
                refine hr_iln C 4 dX12_layShared_87 rfl rfl rfl ?_
                refine hr_ic C dX12_layShared_88 rfl ?_
                refine hr_add C dX12_layShared_89 rfl ?_
                refine hr_mul C dX12_layShared_90 rfl ?_
                refine hr_iln C 5 dX12_layShared_91 rfl rfl rfl ?_
                refine hr_add C dX12_layShared_92 rfl ?_
                refine hr_ic C dX12_layShared_93 rfl ?_
                refine hr_add C dX12_layShared_94 rfl ?_
                refine hr_ald C ha55 TMa_35 (by omega) (by omega) (by decide) dX12_layShared_95 rfl (fun b56 b57 => ?_)
                have b56 := gp1 b56
                simp only [rg] at b57
                refine hr_ic C dX12_layShared_96 rfl ?_
                refine hr_add C dX12_layShared_97 rfl ?_
                refine hr_goto C 115 dX12_layShared_98 (by decide) ?_
                refine hr_isn (lv' := [(3, zv ((vi w 35 (Int.toNat (((13 * (a + 1)) + b) + 1))) + 1)), (5, zv (vi w 35 (Int.toNat ((13 * a) + b + 1)))), (4, zv (vi w 35 (Int.toNat ((13 * (a + 1)) + b)))), (0, .ref r), (1, zv (a)), (2, zv (b))]) C dX12_layShared_115 rfl (by decide) rfl rfl ?_
                refine hr_aln C 3 dX12_layShared_116 rfl rfl rfl ?_
                refine hr_gA (g := 35) C hr0 TM0 rfl (by decide) fl_X12_119 dX12_layShared_117 rfl (fun a58 ha59 => ?_)
                refine hr_bi C dX12_layShared_120 (by decide +kernel) rfl ?_
                refine hr_iln C 4 dX12_layShared_122 rfl rfl rfl ?_
                refine hr_mul C dX12_layShared_123 rfl ?_
                refine hr_iln C 5 dX12_layShared_124 rfl rfl rfl ?_
                refine hr_add C dX12_layShared_125 rfl ?_
                refine hr_iln C 0 dX12_layShared_126 rfl rfl rfl ?_
                refine hr_ast C ha59 TMa_35 (by omega) (by omega) (by decide) ⟨by omega, by omega⟩ (hp1 (by omega) (by omega)) dX12_layShared_127 rfl (fun w60 o61 s62 e63 => ?_)
                refine hr_inc (lv' := [(2, zv (b + (-1))), (3, zv ((vi w 35 (Int.toNat (((13 * (a + 1)) + b) + 1))) + 1)), (5, zv (vi w 35 (Int.toNat ((13 * a) + b + 1)))), (4, zv (vi w 35 (Int.toNat ((13 * (a + 1)) + b)))), (0, .ref r), (1, zv (a))]) C 5 dX12_layShared_128 rfl (by decide) rfl rfl ?_
                refine hr_goto C 14 dX12_layShared_131 (by decide) ?_
                have k1 : ∀ x : Nat, (x : Int) ≠ 13 * a + b → vi w60 35 x = vi w 35 x := by intro x hx; rw [e63, if_neg (by omega)]
                have k2 : vi w60 35 (ix2 a b) = (vi w 35 (Int.toNat (((13 * (a + 1)) + b) + 1))) + 1 := by rw [e63, if_pos ⟨rfl, rfl⟩]
                have hs := SHe_new hL.2.2.2 ⟨h1, h2, by omega, h4⟩ k1 hal k2 (by
                  simp only [ix2]
                  have e1 := n3 a.toNat
                  have e2 := n4 b.toNat
                  have e3 : 13 * (a + 1) + (b + 1) = 13 * (a + 1) + b + 1 := by omega
                  have e4 : 13 * a + (b + 1) = 13 * a + b + 1 := by omega
                  rw [e3, e4]
                  first
                    | (rw [if_neg (by omega)]; done)
                    | (rw [if_pos ⟨by omega, by omega⟩, if_pos (by omega)]; done)
                    | (rw [if_pos ⟨by omega, by omega⟩, if_neg (by omega)]; omega))
                refine hr_pick (lv' := [(0, .ref r), (1, zv (a)), (2, zv (b + (-1)))]) [4, 5, 0] rfl ?_
                exact i2 a (b + (-1)) _ (by omega) h1 h2 (by omega) (by omega) o61 (fx_sm_tr (fx_sm_tr fx_sm_refl sm (by decide)) s62 (by decide)) (SAL_next hL.2.2.2 ⟨h1, h2, by omega, h4⟩ k1 hal hs)
      · intro a w hq h1 h2 how sm hal
        refine hr_iln C 1 dX12_layShared_5 rfl rfl rfl ?_
        refine hr_if C 140 dX12_layShared_6 (by decide) ⟨by omega, by omega⟩ rfl (fun c1 => ?_) (fun c1 => ?_)
        · have c1 : (a : Int) < 0 := c1
          have e8 : a = -1 := by omega
          rw [e8] at hal
          exact hr_vret C hlocks hr dX12_layShared_140 ⟨sm, rfl, fun a' b' hr hlt => hal a' b' hr (by obtain ⟨r1, r2, r3, r4⟩ := hr; omega)⟩
        · have c1 : (0 : Int) ≤ a := c1
          refine hr_aln C 0 dX12_layShared_9 rfl rfl rfl ?_
          refine hr_gI (lo := 0) (hi := 12) C hr0 TM0 rfl fl_X12_390 dX12_layShared_10 rfl (fun b2 b3 => ?_)
          have q4 : vi w 0 46 = vi ws 0 46 := by rw [sm_f hwo how sm (by decide)]
          rw [q4] at b2 b3 ⊢
          refine hr_isn (lv' := [(2, zv (vi ws 0 46)), (0, .ref r), (1, zv (a))]) C dX12_layShared_13 rfl (by decide) rfl rfl ?_
          rw [n2]
          refine hr_pick (lv' := [(0, .ref r), (1, zv (a)), (2, zv (L2))]) [1, 2, 0] rfl ?_
          exact i2 a L2 w (by omega) (by omega) h2 (by omega) (by omega) how sm hal
  refine hr_aln C 0 dX12_layShared_0 rfl rfl rfl ?_
  refine hr_gI (lo := 0) (hi := 12) C hr0 TM0 rfl fl_X12_384 dX12_layShared_1 rfl (fun b1 b2 => ?_)
  refine hr_isn (lv' := [(1, zv (vi ws 0 45)), (0, .ref r)]) C dX12_layShared_4 rfl (by decide) rfl rfl ?_
  rw [n1]
  refine hr_pick (lv' := [(0, .ref r), (1, zv (L1))]) [1, 0] rfl ?_
  exact (all _).2 L1 ws (Nat.lt_succ_self _) (by omega) (by omega) hwo fx_sm_refl SAL_top
