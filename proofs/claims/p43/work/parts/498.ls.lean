theorem m_0 : Cond.classLink RL 7 RX11 ∈ wsL_law := in_wsL_law_r1 _ (List.mem_of_getElem? (i := 0) rfl)
theorem m_1 : Cond.instantiable RX11 9 ∈ wsL_law := in_wsL_law_r1 _ (List.mem_of_getElem? (i := 1) rfl)
theorem m_3 : Cond.classLink RL 10 RX12 ∈ wsL_law := in_wsL_law_r1 _ (List.mem_of_getElem? (i := 3) rfl)
theorem m_4 : Cond.instantiable RX12 74 ∈ wsL_law := in_wsL_law_r1 _ (List.mem_of_getElem? (i := 4) rfl)
theorem m_6 : Cond.methodLink RL 9 yX11_init ∈ wsL_law := in_wsL_law_r1 _ (List.mem_of_getElem? (i := 6) rfl)
theorem m_7 : Cond.instanceMethod yX11_init ∈ wsL_law := in_wsL_law_r1 _ (List.mem_of_getElem? (i := 7) rfl)
theorem m_8 : Cond.code yX11_init cX11_init 1 none ∈ wsL_law := in_wsL_law_r1 _ (List.mem_of_getElem? (i := 8) rfl)
theorem m_214 : Cond.methodLink RL 12 yX12_init ∈ wsL_law := in_wsL_law_r9 _ (List.mem_of_getElem? (i := 22) rfl)
theorem m_215 : Cond.instanceMethod yX12_init ∈ wsL_law := in_wsL_law_r9 _ (List.mem_of_getElem? (i := 23) rfl)
theorem m_216 : Cond.code yX12_init cX12_init 1 none ∈ wsL_law := in_wsL_law_r10 _ (List.mem_of_getElem? (i := 0) rfl)
theorem dL_law_33 : decode cL_law 33 = .ok (.tableswitch 1537 0 47 #[207, 270, 293, 306, 329, 352, 385, 408, 431, 464, 487, 510, 533, 556, 579, 602, 635, 668, 681, 694, 727, 760, 793, 826, 869, 902, 935, 968, 1001, 1034, 1057, 1090, 1123, 1146, 1169, 1202, 1215, 1228, 1251, 1274, 1333, 1356, 1379, 1402, 1435, 1468, 1491, 1514], 207) := by decide +kernel
theorem dL_law_18 : decode cL_law 18 = .ok (.iload_n 3, 1) := by decide +kernel
theorem dL_law_19 : decode cL_law 19 = .ok (.aload_n 0, 1) := by decide +kernel
theorem dL_law_20 : decode cL_law 20 = .ok (.arraylength, 1) := by decide +kernel
theorem dL_law_21 : decode cL_law 21 = .ok (.bipush 6, 2) := by decide +kernel
theorem dL_law_23 : decode cL_law 23 = .ok (.isub, 1) := by decide +kernel
theorem dL_law_24 : decode cL_law 24 = .ok (.if_icmp .gt 1552, 3) := by decide +kernel
theorem dL_law_1576 : decode cL_law 1576 = .ok (.iconst 1, 1) := by decide +kernel
theorem dL_law_1577 : decode cL_law 1577 = .ok (.ireturn, 1) := by decide +kernel
theorem dL_law_27 : decode cL_law 27 = .ok (.aload_n 0, 1) := by decide +kernel
theorem dL_law_28 : decode cL_law 28 = .ok (.iload_n 3, 1) := by decide +kernel
theorem dL_law_29 : decode cL_law 29 = .ok (.iaload, 1) := by decide +kernel
theorem dL_law_30 : decode cL_law 30 = .ok (.bipush 63, 2) := by decide +kernel
theorem dL_law_32 : decode cL_law 32 = .ok (.iand, 1) := by decide +kernel
theorem dL_law_1570 : decode cL_law 1570 = .ok (.iinc 3 6, 3) := by decide +kernel
theorem dL_law_1573 : decode cL_law 1573 = .ok (.goto (-1555), 3) := by decide +kernel
theorem dL_law_0 : decode cL_law 0 = .ok (.new 7, 3) := by decide +kernel
theorem dL_law_3 : decode cL_law 3 = .ok (.dup, 1) := by decide +kernel
theorem dL_law_4 : decode cL_law 4 = .ok (.invokespecial 9, 3) := by decide +kernel
theorem dL_law_7 : decode cL_law 7 = .ok (.astore_n 1, 1) := by decide +kernel
theorem dL_law_8 : decode cL_law 8 = .ok (.new 10, 3) := by decide +kernel
theorem dL_law_11 : decode cL_law 11 = .ok (.dup, 1) := by decide +kernel
theorem dL_law_12 : decode cL_law 12 = .ok (.invokespecial 12, 3) := by decide +kernel
theorem dL_law_15 : decode cL_law 15 = .ok (.astore_n 2, 1) := by decide +kernel
theorem dL_law_16 : decode cL_law 16 = .ok (.iconst 0, 1) := by decide +kernel
theorem dL_law_17 : decode cL_law 17 = .ok (.istore_n 3, 1) := by decide +kernel
theorem dfX11 : ∀ j, j < 9 → defaultValue (tyX11 j) = vp_V [.null, .null, .null, .null, .null, .null, .null, .null, .null] j
  | 0, _ => rfl
  | 1, _ => rfl
  | 2, _ => rfl
  | 3, _ => rfl
  | 4, _ => rfl
  | 5, _ => rfl
  | 6, _ => rfl
  | 7, _ => rfl
  | 8, _ => rfl
  | n + 9, h => absurd h (by omega)
theorem dfX12 : ∀ j, j < 74 → defaultValue (tyX12 j) = vp_V [.null, .null, .int 0, .int 0, .int 0, .int 0, .int 0, .int 0, .int 0, .int 0, .long 0, .null, .null, .null, .null, .null, .null, .null, .null, .null, .null, .null, .null, .null, .null, .null, .null, .null, .null, .null, .null, .null, .null, .null, .int 0, .int 0, .int 0, .int 0, .int 0, .int 0, .int 0, .null, .null, .null, .null, .int 0, .int 0, .int 0, .null, .int 0, .int 0, .null, .null, .null, .null, .int 0, .null, .null, .null, .int 0, .null, .null, .null, .null, .null, .null, .null, .null, .null, .int 0, .int 0, .int 0, .null, .null] j
  | 0, _ => rfl
  | 1, _ => rfl
  | 2, _ => rfl
  | 3, _ => rfl
  | 4, _ => rfl
  | 5, _ => rfl
  | 6, _ => rfl
  | 7, _ => rfl
  | 8, _ => rfl
  | 9, _ => rfl
  | 10, _ => rfl
  | 11, _ => rfl
  | 12, _ => rfl
  | 13, _ => rfl
  | 14, _ => rfl
  | 15, _ => rfl
  | 16, _ => rfl
  | 17, _ => rfl
  | 18, _ => rfl
  | 19, _ => rfl
  | 20, _ => rfl
  | 21, _ => rfl
  | 22, _ => rfl
  | 23, _ => rfl
  | 24, _ => rfl
  | 25, _ => rfl
  | 26, _ => rfl
  | 27, _ => rfl
  | 28, _ => rfl
  | 29, _ => rfl
  | 30, _ => rfl
  | 31, _ => rfl
  | 32, _ => rfl
  | 33, _ => rfl
  | 34, _ => rfl
  | 35, _ => rfl
  | 36, _ => rfl
  | 37, _ => rfl
  | 38, _ => rfl
  | 39, _ => rfl
  | 40, _ => rfl
  | 41, _ => rfl
  | 42, _ => rfl
  | 43, _ => rfl
  | 44, _ => rfl
  | 45, _ => rfl
  | 46, _ => rfl
  | 47, _ => rfl
  | 48, _ => rfl
  | 49, _ => rfl
  | 50, _ => rfl
  | 51, _ => rfl
  | 52, _ => rfl
  | 53, _ => rfl
  | 54, _ => rfl
  | 55, _ => rfl
  | 56, _ => rfl
  | 57, _ => rfl
  | 58, _ => rfl
  | 59, _ => rfl
  | 60, _ => rfl
  | 61, _ => rfl
  | 62, _ => rfl
  | 63, _ => rfl
  | 64, _ => rfl
  | 65, _ => rfl
  | 66, _ => rfl
  | 67, _ => rfl
  | 68, _ => rfl
  | 69, _ => rfl
  | 70, _ => rfl
  | 71, _ => rfl
  | 72, _ => rfl
  | 73, _ => rfl
  | n + 74, h => absurd h (by omega)
def keyT : Term := Term.string "LostWords$Tape" 19
def keyB : List Int32 := [119, 111, 114, 100, 32, 98, 101, 115, 105, 100, 101, 32, 114, 111, 119, 32, 115, 108, 105, 112, 32, 109, 105, 115, 115, 32, 100, 114, 97, 119, 32, 111, 114, 32, 97, 110, 100, 32, 110, 111, 116, 32, 119, 111, 114, 116, 104, 32, 112, 108, 97, 99, 101, 32, 115, 105, 122, 101, 32, 116, 105, 109, 101, 115, 32, 108, 101, 102, 116, 32, 114, 105, 103, 104, 116]
theorem nest_in : ∀ w ∈ nestW, w ∈ lw_tbl := by decide +kernel
theorem key_el : ∀ j : Nat, j < 75 → Cond.eq (.elem (.field keyT "java/lang/String" "value" "[B") (.int (Int32.ofNat j))) (.int (keyB.getD j 0)) ∈ flatC (Jvm.Cond.and given_1 narrow_1) := by decide +kernel
theorem law_SV {s : State} {b : Nat} (hts : ∀ w ∈ lw_tbl, w.before #[Value.ref b] s = true) (hgv : (Jvm.Cond.and given_1 narrow_1).before #[Value.ref b] s = true) : ∃ (kq vq : Nat) (bf : Nat → Int32), SV kq vq bf (fun q : Nat => s.heap.size ≤ q) s := by
  have hs := flat_of_before _ hgv
  have hA : ∀ a : Nat, a < s.heap.size → ¬ (fun q : Nat => s.heap.size ≤ q) a := fun a h => Nat.not_le.mpr h
  obtain ⟨adK, adV, hS, hT⟩ := vk_Sof (args := #[Value.ref b]) (s := s) (N := 1) (tm := fun _ => keyT) (len := [75]) (byt := [keyB]) (A := fun q : Nat => s.heap.size ≤ q)
    (fun i hi => by rw [show i = 0 by omega]; decide)
    (fun i hi => hs _ (by decide +kernel))
    (fun i hi => hs _ (by decide +kernel))
    (fun i hi => hs _ (by decide +kernel))
    (fun i hi => by rw [show i = 0 by omega]; exact hs _ (by decide +kernel))
    (fun i hi j hj => by rw [show i = 0 by omega] at hj ⊢; exact hs _ (key_el j hj))
    (fun i j hi hj hn => absurd (show i = j by omega) hn) hA
  obtain ⟨h1, h2, h3, h4⟩ := hS.1 0 (by decide)
  exact ⟨adK 0, adV 0, fun j => keyB.getD j 0, va_Zof (hts _ (show Cond.laysStatic "java/lang/String" "COMPACT_STRINGS" "Z" ∈ lw_tbl by decide +kernel)) (hts _ (show Cond.initialized "java/lang/String" ∈ lw_tbl by decide +kernel)) (va_eqi (hs _ (show Cond.eq (.static "java/lang/String" "COMPACT_STRINGS" "Z") (.int 1) ∈ flatC (Jvm.Cond.and given_1 narrow_1) by decide +kernel))) hA, va_Zqof (hts _ (show Cond.laysStatic "jdk/internal/util/Preconditions" "SIOOBE_FORMATTER" "Ljava/util/function/BiFunction;" ∈ lw_tbl by decide +kernel)) (hts _ (show Cond.initialized "jdk/internal/util/Preconditions" ∈ lw_tbl by decide +kernel)) (hs _ (show Cond.isRef (.static "jdk/internal/util/Preconditions" "SIOOBE_FORMATTER" "Ljava/util/function/BiFunction;") ∈ flatC (Jvm.Cond.and given_1 narrow_1) by decide +kernel)) hA, vk_R.of (A := #[Value.ref b]) (hts _ (show Cond.stringRef "LostWords$Tape" 19 KEYT ∈ lw_tbl by decide +kernel)) (hT 0 (by decide)), h1, h2, h3, h4⟩
theorem law_arI {s : State} {b : Nat} (h : (Cond.arrayClass .int).before #[Value.ref b] s = true) : ∃ cA : ClassId, ArrOfT s cA .int ∧ va_RA s cA .int := by
  obtain ⟨cA, kA, comp, h1, h2, h3⟩ := Cond.arrayClass_spec (show (Cond.arrayClass .int).holds #[Value.ref b] s none s [] = true from h)
  exact ⟨cA, fun n z => ⟨fun k h => (by cases h), kA, h2, comp, h3⟩, h1⟩
theorem law_arJ {s : State} {b : Nat} (h : (Cond.arrayClass .long).before #[Value.ref b] s = true) : ∃ cA : ClassId, ArrOfT s cA .long ∧ va_RA s cA .long := by
  obtain ⟨cA, kA, comp, h1, h2, h3⟩ := Cond.arrayClass_spec (show (Cond.arrayClass .long).holds #[Value.ref b] s none s [] = true from h)
  exact ⟨cA, fun n z => ⟨fun k h => (by cases h), kA, h2, comp, h3⟩, h1⟩
theorem law_arB {s : State} {b : Nat} (h : (Cond.arrayClass .byte).before #[Value.ref b] s = true) : ∃ cA : ClassId, ArrOfT s cA .byte ∧ va_RA s cA .byte := by
  obtain ⟨cA, kA, comp, h1, h2, h3⟩ := Cond.arrayClass_spec (show (Cond.arrayClass .byte).holds #[Value.ref b] s none s [] = true from h)
  exact ⟨cA, fun n z => ⟨fun k h => (by cases h), kA, h2, comp, h3⟩, h1⟩
theorem law_arZ {s : State} {b : Nat} (h : (Cond.arrayClass .boolean).before #[Value.ref b] s = true) : ∃ cA : ClassId, ArrOfT s cA .boolean ∧ va_RA s cA .boolean := by
  obtain ⟨cA, kA, comp, h1, h2, h3⟩ := Cond.arrayClass_spec (show (Cond.arrayClass .boolean).holds #[Value.ref b] s none s [] = true from h)
  exact ⟨cA, fun n z => ⟨fun k h => (by cases h), kA, h2, comp, h3⟩, h1⟩
theorem law_arq {s : State} {b : Nat} {C : String} (h : (Cond.arrayOver (.object C)).before #[Value.ref b] s = true) : ∃ cA : ClassId, ArrOfT s cA (.object C) ∧ va_RA s cA (.object C) := by
  obtain ⟨comp, cA, kA, h1, h2, h3, h4, h5⟩ := Cond.arrayOver_spec (show (Cond.arrayOver (.object C)).holds #[Value.ref b] s none s [] = true from h)
  exact ⟨cA, fun n z => ⟨fun k h => (by cases h), kA, h3, comp, h4⟩, kA, comp, h3, h4, h1, h5⟩
theorem law_NW {s : State} {b : Nat} (hts : ∀ w ∈ lw_tbl, w.before #[Value.ref b] s = true) : NW s := by
  intro w hw
  have h1 := nestW_ok w hw
  have h2 := hts w (nest_in w hw)
  cases w <;> first | exact va_Nw.of rfl h2 | exact absurd h1 (by simp [isNestW])
set_option maxRecDepth 100000 in
set_option maxHeartbeats 4000000 in
theorem law_EV {s : State} {b : Nat} (hts0 : ∀ w ∈ lw_tbl, w.before #[Value.ref b] s = true) (hts : ∀ w ∈ wsL_law, w.before #[Value.ref b] s = true) : ∃ (dC : Nat → ClassId) (dI : Nat → Nat → Nat) (cy : Nat → ClassId), EV dC dI cy s := by
  obtain ⟨c0, i0, k0⟩ := u_known (C := RX0) (T := TX0) (N := 8) (n := 8) hts inlX0 (hts _ m_128)
  obtain ⟨c1, i1, k1⟩ := u_known (C := RX1) (T := TX1) (N := 2) (n := 2) hts inlX1 (hts _ m_37)
  obtain ⟨c2, i2, k2⟩ := u_known (C := RX2) (T := TX2) (N := 1) (n := 1) hts inlX2 (hts _ m_25)
  obtain ⟨c3, i3, k3⟩ := u_known (C := RX3) (T := TX3) (N := 3) (n := 3) hts inlX3 (hts _ m_29)
  obtain ⟨c4, i4, k4⟩ := u_known (C := RX4) (T := TX4) (N := 7) (n := 7) hts inlX4 (hts _ m_21)
  obtain ⟨c5, i5, k5⟩ := u_known (C := RX5) (T := TX5) (N := 7) (n := 7) hts inlX5 (hts _ m_17)
  obtain ⟨c6, i6, k6⟩ := u_known (C := RX6) (T := TX6) (N := 4) (n := 4) hts inlX6 (hts _ m_13)
  obtain ⟨c7, i7, k7⟩ := u_known (C := RX7) (T := TX7) (N := 13) (n := 13) hts inlX7 (hts _ m_33)
  obtain ⟨c8, i8, k8⟩ := u_known (C := RX8) (T := TX8) (N := 3) (n := 3) hts inlX8 (hts _ m_154)
  obtain ⟨c9, i9, k9⟩ := u_known (C := RX9) (T := TX9) (N := 8) (n := 8) hts inlX9 (hts _ m_50)
  obtain ⟨c10, i10, k10⟩ := u_known (C := RX10) (T := TX10) (N := 12) (n := 12) hts inlX10 (hts _ m_42)
  obtain ⟨c11, i11, k11⟩ := u_known (C := RX11) (T := TX11) (N := 9) (n := 9) hts inlX11 (hts _ m_1)
  obtain ⟨c12, i12, k12⟩ := u_known (C := RX12) (T := TX12) (N := 74) (n := 74) hts inlX12 (hts _ m_4)
  obtain ⟨a0, ha0⟩ := law_arI (hts _ m_119)
  obtain ⟨a1, ha1⟩ := law_arJ (hts _ m_63)
  obtain ⟨a2, ha2⟩ := law_arB (hts _ m_61)
  obtain ⟨a3, ha3⟩ := law_arZ (hts _ m_122)
  have ho1 := hts0 (.arrayOver (.object "LostWords$Line")) (by decide +kernel)
  have ho2 := hts0 (.arrayOver (.object "LostWords$State")) (by decide +kernel)
  obtain ⟨a4, ha4⟩ := law_arq ho1
  obtain ⟨a5, ha5⟩ := law_arq ho2
  refine ⟨fun k => match k with | 0 => c0 | 1 => c1 | 2 => c2 | 3 => c3 | 4 => c4 | 5 => c5 | 6 => c6 | 7 => c7 | 8 => c8 | 9 => c9 | 10 => c10 | 11 => c11 | _ => c12, fun k => match k with | 0 => i0 | 1 => i1 | 2 => i2 | 3 => i3 | 4 => i4 | 5 => i5 | 6 => i6 | 7 => i7 | 8 => i8 | 9 => i9 | 10 => i10 | 11 => i11 | _ => i12, fun k => match k with | 0 => a0 | 1 => a1 | 2 => a2 | 3 => a3 | 4 => a4 | _ => a5, ⟨fun k q hq => ?_, fun k q hq => ?_⟩, law_NW hts0, va_AO.of ho1, va_AO.of ho2⟩
  · match k, hq with
    | 0, hq => cases hq; exact k0
    | 1, hq => cases hq; exact k1
    | 2, hq => cases hq; exact k2
    | 3, hq => cases hq; exact k3
    | 4, hq => cases hq; exact k4
    | 5, hq => cases hq; exact k5
    | 6, hq => cases hq; exact k6
    | 7, hq => cases hq; exact k7
    | 8, hq => cases hq; exact k8
    | 9, hq => cases hq; exact k9
    | 10, hq => cases hq; exact k10
    | 11, hq => cases hq; exact k11
    | 12, hq => cases hq; exact k12
    | k + 13, hq => simp [classes] at hq
  · match k, hq with
    | 0, hq => cases hq; exact ha0
    | 1, hq => cases hq; exact ha1
    | 2, hq => cases hq; exact ha2
    | 3, hq => cases hq; exact ha3
    | 4, hq => cases hq; exact ha4
    | 5, hq => cases hq; exact ha5
    | k + 6, hq => simp [tys] at hq
def sgnT : Term := Term.string "LostWords$Tape" 66
def sgnB : List Int32 := [59, 40, 41, 60, 62, 61, 43, 45, 42, 47, 37]
theorem sgn_el : ∀ j : Nat, j < 11 → Cond.eq (.elem (.field sgnT "java/lang/String" "value" "[B") (.int (Int32.ofNat j))) (.int (sgnB.getD j 0)) ∈ flatC (Jvm.Cond.and given_1 narrow_1) := by decide +kernel
theorem law_SG {s : State} {b : Nat} (hts : ∀ w ∈ lw_tbl, w.before #[Value.ref b] s = true) (hgv : (Jvm.Cond.and given_1 narrow_1).before #[Value.ref b] s = true) : ∃ (kq vq : Nat) (bf : Nat → Int32), SG kq vq bf (fun q : Nat => s.heap.size ≤ q) s := by
  have hs := flat_of_before _ hgv
  have hA : ∀ a : Nat, a < s.heap.size → ¬ (fun q : Nat => s.heap.size ≤ q) a := fun a h => Nat.not_le.mpr h
  obtain ⟨adK, adV, hS, hT⟩ := vk_Sof (args := #[Value.ref b]) (s := s) (N := 1) (tm := fun _ => sgnT) (len := [11]) (byt := [sgnB]) (A := fun q : Nat => s.heap.size ≤ q)
    (fun i hi => by rw [show i = 0 by omega]; decide)
    (fun i hi => hs _ (by decide +kernel))
    (fun i hi => hs _ (by decide +kernel))
    (fun i hi => hs _ (by decide +kernel))
    (fun i hi => by rw [show i = 0 by omega]; exact hs _ (by decide +kernel))
    (fun i hi j hj => by rw [show i = 0 by omega] at hj ⊢; exact hs _ (sgn_el j hj))
    (fun i j hi hj hn => absurd (show i = j by omega) hn) hA
  obtain ⟨h1, h2, h3, h4⟩ := hS.1 0 (by decide)
  exact ⟨adK 0, adV 0, fun j => sgnB.getD j 0, va_Zof (hts _ (show Cond.laysStatic "java/lang/String" "COMPACT_STRINGS" "Z" ∈ lw_tbl by decide +kernel)) (hts _ (show Cond.initialized "java/lang/String" ∈ lw_tbl by decide +kernel)) (va_eqi (hs _ (show Cond.eq (.static "java/lang/String" "COMPACT_STRINGS" "Z") (.int 1) ∈ flatC (Jvm.Cond.and given_1 narrow_1) by decide +kernel))) hA, vk_R.of (A := #[Value.ref b]) (hts _ (show Cond.stringRef "LostWords$Tape" 66 SGT ∈ lw_tbl by decide +kernel)) (hT 0 (by decide)), h1, h2, h3, h4⟩

/-- a constructor called for a new object beside any other cells -/
theorem w_init {l : Launch} {p : Program} {e : Env} {R : Room} {s : State} {m : MethodId} {args : Array Value} {below : List Frame} {meth : Method} {c : Code} {Q : State → Prop} {cc : ByteArray} {nL : Nat} {own : String} {pc : Nat} {lv : List (Nat × Value)} {st : List Value} {cl sl : Nat} {E : (Nat → Prop) → State → Prop} {cy : Nat → ClassId} {D : va_G} {A : Nat → Prop} {H0 : Heap} {wr : va_W} {H : Heap} {locs : List Loc} {ls : Array Slot} (C : gC p s m args c cc nL own) (hE : fx_env E D classes (tys cy) nestW) (hEs : E A s) (hH0 : H0 = s.heap) (hA : ∀ q, H0.size ≤ q → A q) (hl : lv_has ls nL lv) {y : MethodName} {bytes : ByteArray} {nL' mc ms frm lo n index b : Nat} {o : va_E} {As rest : List Value} {Qc : Array Value → State → Outcome → State → Prop} {POST : va_W → Prop}
    (hM : Met l y (Cond.code y bytes nL' none :: wsL_law) ({ frames := frm, cells := mc, slots := ms, locals := lo }) (va_Pc (.ref b :: As) (fun U => U.heap.size = H.size ∧ va_P D classes [(b, o)] U.heap ∧ E (va_A [(b, o)] H.size) U)) Qc mc ms (va_A [(b, o)] H.size))
    (hQ : ∀ a st oc t, Qc a st oc t → (oc = .returned none ∧ ∃ wN, va_P D classes wN t.heap ∧ va_D (va_A [(b, o)] H.size) wN ∧ POST wN) ∧ va_F (va_A [(b, o)] H.size) st t)
    (cw : CallB R s args own index y bytes nL' none (Cond.code y bytes nL' none :: wsL_law) ({ frames := frm, cells := mc, slots := ms, locals := lo }) mc ms n ∧ y.name = "<init>" ∧ (Cond.instanceMethod y).before args s = true) (hn : As.length = n) (hst : st = As.reverse ++ .ref b :: rest) (hsum : (rest.map fun v => v.category).sum ≤ 8) (hdg : decode cc pc = .ok (.invokespecial index, 3)) (hf : cl + mc ≤ R.cells ∧ sl + ms ≤ R.slots)
    (hP : va_P D classes (wr ++ [(b, o)]) H) (hD : va_D A (wr ++ [(b, o)])) (hS : va_S A H0 H locs)
    (kk : ∀ (wN : va_W) (H1 : Heap) (locs1 : List Loc), va_P D classes wr H1 → va_P D classes wN H1 → va_D A (wr ++ wN) → va_S A H0 H1 locs1 → POST wN → W p l e R s m args below meth c H1 locs1 (cl + mc) (sl + ms) Q (F0 m (pc + 3) ls rest)) : W p l e R s m args below meth c H locs cl sl Q (F0 m pc ls st) := by
  have hb0 : (wr ++ [(b, o)] : va_W)[wr.length]? = some (b, o) := by
    rw [List.getElem?_append_right (Nat.le_refl _), Nat.sub_self]; rfl
  have hbA : A b := hD.2 _ _ hb0
  have hPc : va_P D classes [(b, o)] H := fun k q hk' => by
    have hz : k < 1 := (List.getElem?_eq_some_iff.mp hk').1
    rw [show k = 0 by omega] at hk'
    cases hk'
    exact hP _ _ hb0
  have hsub : ∀ q, va_A [(b, o)] H.size q → A q := fun q hq => by
    rcases hq with ⟨k, e', hq⟩ | hq
    · have hz : k < 1 := (List.getElem?_eq_some_iff.mp hq).1
      rw [show k = 0 by omega] at hq
      cases hq
      exact hbA
    · exact hA q (Nat.le_trans hS.1 hq)
  refine g_callc (A := A) (H0 := H0) (A1 := va_A [(b, o)] H.size) (va_runI (As := As) (rest := rest) (b := b) ⟨C.1, C.2.1, C.2.2.1, C.2.2.2.2.1, C.2.2.2.1⟩ hM cw ⟨fun a U g mk q => ?_, fun U hU hW => ?_⟩ rfl hn hl.1 hst (lv_room hsum) hdg hf) hS (fun q _ hq => hsub q hq) hsub (fun st v t h => (hQ _ _ _ _ h).2) (fun v st₀ t H1 locs1 e0 e1 hq hS1 => ?_)
  · obtain ⟨q0, q1, q2, q3⟩ := q
    exact ⟨q0, q1, q2, hE.2.2 _ _ _ _ _ q3⟩
  · exact ⟨rfl, by rw [hU], by rw [hU]; exact hPc, hE.2.1 A _ _ _ hW (fun a h1 h2 => by rw [hU]; have := hS.2.1 a (by rw [hH0]; exact h1) h2; rw [this, hH0]) hsub hEs⟩
  · obtain ⟨⟨e2, wN, n1, n2, n3⟩, hF⟩ := hQ _ _ _ _ hq
    cases e2
    rw [e1] at n1
    have hnA : ∀ (k : Nat) (q : Nat × va_E), wr[k]? = some q → q.1 < H.size ∧ ¬ va_A [(b, o)] H.size q.1 ∧ A q.1 := fun k q hk' => by
      have hk2 := fr_at (pl := [(b, o)]) hk'
      have hlt := (hP _ _ hk2).lt
      refine ⟨hlt, fun hq => ?_, hD.2 _ _ hk2⟩
      rcases hq with ⟨k2, e', hq⟩ | hq
      · have hz : k2 < 1 := (List.getElem?_eq_some_iff.mp hq).1
        rw [show k2 = 0 by omega] at hq
        have hqb : q.1 = b := by have := congrArg (fun o => o.map Prod.fst) hq; simpa using this.symm
        have := hD.1 _ _ _ _ hk2 hb0 hqb
        have hkl := (List.getElem?_eq_some_iff.mp hk').1
        omega
      · omega
    have hPr : va_P D classes wr H := fun k q hk' => hP _ _ (fr_at hk')
    have hPr1 : va_P D classes wr H1 := hPr.kept (fun k q hk' => by rw [← e1, ← e0]; exact hF.2 q.1 (by rw [e0]; exact (hnA k q hk').1) (hnA k q hk').2.1)
    have hDr : va_D A wr := ⟨fun i j u v hi hj huv => hD.1 i j u v (fr_at hi) (fr_at hj) huv, fun k q hk => (hnA k q hk).2.2⟩
    have hDn : va_D A wN := n2.weaken (fun k q _ hq => hsub _ hq)
    exact kk wN H1 locs1 hPr1 n1 (hDr.app hDn (fun i j u v hi hj huv => (hnA i u hi).2.1 (by rw [huv]; exact n2.2 j v hj))) hS1 n3
theorem TXZ_sub : sbW TXZ TX = true := by decide +kernel
theorem TRX_0 {cy : Nat → ClassId} {gx ax : List Nat} {wx : va_W} {x0 : Nat} (hw : fx_wo (gx, TXZ, cy, fun _ => True) ax wx) (hr : rt gx ax (x0, 0)) : TRX wx x0 0 := by
  obtain ⟨k0, ka, kg⟩ := hr
  obtain ⟨vs, g1, g2, g3⟩ := wx_obj (g := 0) (ci := 11) hw ka kg rfl
  obtain ⟨v5, v6, k', b', v7, v8, v9⟩ := g3 5 _ rfl
  have hg6 : gx[k']? = some 6 := by
    rcases v8 with ⟨_, q⟩ | ⟨q, _⟩
    · exact q
    · exact absurd (show 10000 ≤ 6 from q) (by decide)
  obtain ⟨us, u1, u2, u3⟩ := wx_obj (g := 6) (ci := 7) hw v7 hg6 rfl
  obtain ⟨v, w1, x, w2, w3, w4⟩ := u3 11 _ rfl
  refine ⟨k0, vs, b', k', us, g1, by rw [v6, v9], u1, ?_⟩
  rw [w1, w2, zv_of]
  have : x.toInt = 0 := by simp only at w3 w4; omega
  rw [this]

set_option maxRecDepth 100000 in
set_option maxHeartbeats 4000000 in
theorem law_sw {p : Program} {l : Launch} {e : Env} {s : State} {m : MethodId} {below : List Frame} {meth : Method} {c : Code} {b L x0 m0 : Nat} {xs : Nat → Int32} {i : Int} {E : (Nat → Prop) → State → Prop} {cy : Nat → ClassId} {D : va_G} (C : gC p s m #[Value.ref b] c code 4 RL) (hXX : fxX E D cy) (hEs : E (fun q : Nat => s.heap.size ≤ q) s) (hX : va_X b L xs s s.heap) (hbl : b < s.heap.size) (hL : L ≤ 3072) (hi : 0 ≤ i) (hi6 : i + 6 ≤ L) (kk : lawG p l e s m below meth c b 1570 [(0, .ref b), (1, .ref x0), (2, .ref m0), (3, zv i)] [] (lP cy D (fun q : Nat => s.heap.size ≤ q) s.heap x0 m0)) (t : Int) (k : Nat) (hk : k < 48) : lawG p l e s m below meth c b 33 [(0, .ref b), (1, .ref x0), (2, .ref m0), (3, zv i)] [zv (k : Int)] (lQ cy D (fun q : Nat => s.heap.size ≤ q) s.heap x0 m0 t t) := by
  match k, hk with
  | 0, _ => exact gq_tabI (k := 0) C 240 dL_law_33 (by decide) (by decide) rfl (by decide) (l_in (law_c0 C hXX hEs hX hbl hL hi hi6 kk))
  | 1, _ => exact gq_tabI (k := 1) C 303 dL_law_33 (by decide) (by decide) rfl (by decide) (l_in (law_c1 C hXX hEs hX hbl hL hi hi6 kk))
  | 2, _ => exact gq_tabI (k := 2) C 326 dL_law_33 (by decide) (by decide) rfl (by decide) (l_in (law_c2 C hXX hEs hX hbl hL hi hi6 kk))
  | 3, _ => exact gq_tabI (k := 3) C 339 dL_law_33 (by decide) (by decide) rfl (by decide) (l_in (law_c3 C hXX hEs hX hbl hL hi hi6 kk))
  | 4, _ => exact gq_tabI (k := 4) C 362 dL_law_33 (by decide) (by decide) rfl (by decide) (l_in (law_c4 C hXX hEs hX hbl hL hi hi6 kk))
  | 5, _ => exact gq_tabI (k := 5) C 385 dL_law_33 (by decide) (by decide) rfl (by decide) (l_in (law_c5 C hXX hEs hX hbl hL hi hi6 kk))
  | 6, _ => exact gq_tabI (k := 6) C 418 dL_law_33 (by decide) (by decide) rfl (by decide) (l_in (law_c6 C hXX hEs hX hbl hL hi hi6 kk))
  | 7, _ => exact gq_tabI (k := 7) C 441 dL_law_33 (by decide) (by decide) rfl (by decide) (l_in (law_c7 C hXX hEs hX hbl hL hi hi6 kk))
  | 8, _ => exact gq_tabI (k := 8) C 464 dL_law_33 (by decide) (by decide) rfl (by decide) (l_in (law_c8 C hXX hEs hX hbl hL hi hi6 kk))
  | 9, _ => exact gq_tabI (k := 9) C 497 dL_law_33 (by decide) (by decide) rfl (by decide) (l_in (law_c9 C hXX hEs hX hbl hL hi hi6 kk))
  | 10, _ => exact gq_tabI (k := 10) C 520 dL_law_33 (by decide) (by decide) rfl (by decide) (l_in (law_c10 C hXX hEs hX hbl hL hi hi6 kk))
  | 11, _ => exact gq_tabI (k := 11) C 543 dL_law_33 (by decide) (by decide) rfl (by decide) (l_in (law_c11 C hXX hEs hX hbl hL hi hi6 kk))
  | 12, _ => exact gq_tabI (k := 12) C 566 dL_law_33 (by decide) (by decide) rfl (by decide) (l_in (law_c12 C hXX hEs hX hbl hL hi hi6 kk))
  | 13, _ => exact gq_tabI (k := 13) C 589 dL_law_33 (by decide) (by decide) rfl (by decide) (l_in (law_c13 C hXX hEs hX hbl hL hi hi6 kk))
  | 14, _ => exact gq_tabI (k := 14) C 612 dL_law_33 (by decide) (by decide) rfl (by decide) (l_in (law_c14 C hXX hEs hX hbl hL hi hi6 kk))
  | 15, _ => exact gq_tabI (k := 15) C 635 dL_law_33 (by decide) (by decide) rfl (by decide) (l_in (law_c15 C hXX hEs hX hbl hL hi hi6 kk))
  | 16, _ => exact gq_tabI (k := 16) C 668 dL_law_33 (by decide) (by decide) rfl (by decide) (l_in (law_c16 C hXX hEs hX hbl hL hi hi6 kk))
  | 17, _ => exact gq_tabI (k := 17) C 701 dL_law_33 (by decide) (by decide) rfl (by decide) (l_in (law_c17 C hXX hEs hX hbl hL hi hi6 kk))
  | 18, _ => exact gq_tabI (k := 18) C 714 dL_law_33 (by decide) (by decide) rfl (by decide) (l_in (law_c18 C hXX hEs hX hbl hL hi hi6 kk))
  | 19, _ => exact gq_tabI (k := 19) C 727 dL_law_33 (by decide) (by decide) rfl (by decide) (l_in (law_c19 C hXX hEs hX hbl hL hi hi6 kk))
  | 20, _ => exact gq_tabI (k := 20) C 760 dL_law_33 (by decide) (by decide) rfl (by decide) (l_in (law_c20 C hXX hEs hX hbl hL hi hi6 kk))
  | 21, _ => exact gq_tabI (k := 21) C 793 dL_law_33 (by decide) (by decide) rfl (by decide) (l_in (law_c21 C hXX hEs hX hbl hL hi hi6 kk))
  | 22, _ => exact gq_tabI (k := 22) C 826 dL_law_33 (by decide) (by decide) rfl (by decide) (l_in (law_c22 C hXX hEs hX hbl hL hi hi6 kk))
  | 23, _ => exact gq_tabI (k := 23) C 859 dL_law_33 (by decide) (by decide) rfl (by decide) (l_in (law_c23 C hXX hEs hX hbl hL hi hi6 kk))
  | 24, _ => exact gq_tabI (k := 24) C 902 dL_law_33 (by decide) (by decide) rfl (by decide) (l_in (law_c24 C hXX hEs hX hbl hL hi hi6 kk))
  | 25, _ => exact gq_tabI (k := 25) C 935 dL_law_33 (by decide) (by decide) rfl (by decide) (l_in (law_c25 C hXX hEs hX hbl hL hi hi6 kk))
  | 26, _ => exact gq_tabI (k := 26) C 968 dL_law_33 (by decide) (by decide) rfl (by decide) (l_in (law_c26 C hXX hEs hX hbl hL hi hi6 kk))
  | 27, _ => exact gq_tabI (k := 27) C 1001 dL_law_33 (by decide) (by decide) rfl (by decide) (l_in (law_c27 C hXX hEs hX hbl hL hi hi6 kk))
  | 28, _ => exact gq_tabI (k := 28) C 1034 dL_law_33 (by decide) (by decide) rfl (by decide) (l_in (law_c28 C hXX hEs hX hbl hL hi hi6 kk))
  | 29, _ => exact gq_tabI (k := 29) C 1067 dL_law_33 (by decide) (by decide) rfl (by decide) (l_in (law_c29 C hXX hEs hX hbl hL hi hi6 kk))
  | 30, _ => exact gq_tabI (k := 30) C 1090 dL_law_33 (by decide) (by decide) rfl (by decide) (l_in (law_c30 C hXX hEs hX hbl hL hi hi6 kk))
  | 31, _ => exact gq_tabI (k := 31) C 1123 dL_law_33 (by decide) (by decide) rfl (by decide) (l_in (law_c31 C hXX hEs hX hbl hL hi hi6 kk))
  | 32, _ => exact gq_tabI (k := 32) C 1156 dL_law_33 (by decide) (by decide) rfl (by decide) (l_in (law_c32 C hXX hEs hX hbl hL hi hi6 kk))
  | 33, _ => exact gq_tabI (k := 33) C 1179 dL_law_33 (by decide) (by decide) rfl (by decide) (l_in (law_c33 C hXX hEs hX hbl hL hi hi6 kk))
  | 34, _ => exact gq_tabI (k := 34) C 1202 dL_law_33 (by decide) (by decide) rfl (by decide) (l_in (law_c34 C hXX hEs hX hbl hL hi hi6 kk))
  | 35, _ => exact gq_tabI (k := 35) C 1235 dL_law_33 (by decide) (by decide) rfl (by decide) (l_in (law_c35 C hXX hEs hX hbl hL hi hi6 kk))
  | 36, _ => exact gq_tabI (k := 36) C 1248 dL_law_33 (by decide) (by decide) rfl (by decide) (l_in (law_c36 C hXX hEs hX hbl hL hi hi6 kk))
  | 37, _ => exact gq_tabI (k := 37) C 1261 dL_law_33 (by decide) (by decide) rfl (by decide) (l_in (law_c37 C hXX hEs hX hbl hL hi hi6 kk))
  | 38, _ => exact gq_tabI (k := 38) C 1284 dL_law_33 (by decide) (by decide) rfl (by decide) (l_in (law_c38 C hXX hEs hX hbl hL hi hi6 kk))
  | 39, _ => exact gq_tabI (k := 39) C 1307 dL_law_33 (by decide) (by decide) rfl (by decide) (l_in (law_c39 C hXX hEs hX hbl hL hi hi6 kk))
  | 40, _ => exact gq_tabI (k := 40) C 1366 dL_law_33 (by decide) (by decide) rfl (by decide) (l_in (law_c40 C hXX hEs hX hbl hL hi hi6 kk))
  | 41, _ => exact gq_tabI (k := 41) C 1389 dL_law_33 (by decide) (by decide) rfl (by decide) (l_in (law_c41 C hXX hEs hX hbl hL hi hi6 kk))
  | 42, _ => exact gq_tabI (k := 42) C 1412 dL_law_33 (by decide) (by decide) rfl (by decide) (l_in (law_c42 C hXX hEs hX hbl hL hi hi6 kk))
  | 43, _ => exact gq_tabI (k := 43) C 1435 dL_law_33 (by decide) (by decide) rfl (by decide) (l_in (law_c43 C hXX hEs hX hbl hL hi hi6 kk))
  | 44, _ => exact gq_tabI (k := 44) C 1468 dL_law_33 (by decide) (by decide) rfl (by decide) (l_in (law_c44 C hXX hEs hX hbl hL hi hi6 kk))
  | 45, _ => exact gq_tabI (k := 45) C 1501 dL_law_33 (by decide) (by decide) rfl (by decide) (l_in (law_c45 C hXX hEs hX hbl hL hi hi6 kk))
  | 46, _ => exact gq_tabI (k := 46) C 1524 dL_law_33 (by decide) (by decide) rfl (by decide) (l_in (law_c46 C hXX hEs hX hbl hL hi hi6 kk))
  | 47, _ => exact gq_tabI (k := 47) C 1547 dL_law_33 (by decide) (by decide) rfl (by decide) (l_in (law_c47 C hXX hEs hX hbl hL hi hi6 kk))
  | k + 48, hk => exact absurd hk (by omega)
set_option maxRecDepth 100000 in
set_option maxHeartbeats 4000000 in
theorem law_loop {p : Program} {l : Launch} {e : Env} {s : State} {m : MethodId} {below : List Frame} {meth : Method} {c : Code} {b L x0 m0 : Nat} {xs : Nat → Int32} {E : (Nat → Prop) → State → Prop} {cy : Nat → ClassId} {D : va_G} (C : gC p s m #[Value.ref b] c code 4 RL) (hXX : fxX E D cy) (hEs : E (fun q : Nat => s.heap.size ≤ q) s) (hX : va_X b L xs s s.heap) (hbl : b < s.heap.size) (hL : L ≤ 3072) (hr : meth.sig.returnType = ret) (hlocks : meth.locks = false) : ∀ (q : Nat) (i : Int), (3100 - i).toNat < q → 0 ≤ i → i ≤ 3078 → lawG p l e s m below meth c b 18 [(0, .ref b), (1, .ref x0), (2, .ref m0), (3, zv i)] [] (lP cy D (fun q : Nat => s.heap.size ≤ q) s.heap x0 m0) := by
  have hbA : ¬ (fun q : Nat => s.heap.size ≤ q) b := Nat.not_le.mpr hbl
  intro q
  induction q with
  | zero => intro i hq; omega
  | succ q ih =>
    intro i hq hi0 hi1
    refine l_ex (fun t => ?_)
    refine gq_iln C 3 dL_law_18 rfl rfl rfl ?_
    refine gq_aln C 0 dL_law_19 rfl rfl rfl ?_
    refine l_slen C hX hbl hbA dL_law_20 rfl ?_
    refine gq_bi C dL_law_21 (by decide +kernel) rfl ?_
    refine gq_sub C dL_law_23 rfl ?_
    refine gq_cmp C 1576 dL_law_24 (by decide) ⟨by omega, by omega⟩ ⟨by omega, by omega⟩ rfl (fun _ => ?_) (fun c1 => ?_)
    · intro H locs ls hl hh
      obtain ⟨gx, ax, wx, am, wm, -, -, -, -, -, -, -, -, -, -, hS⟩ := hh
      refine va_forget (fun q hq => hS.2.2 q hq) ?_
      refine W.widen (k := 600000) (n := 7302250) (by decide +kernel) (by decide +kernel) ?_
      refine lv_iconst (v := 1) C.1 C.2.1 dL_law_1576 (by decide +kernel) ?_
      exact lw_ret C.1 C.2.1 hr hlocks dL_law_1577
    have c2 : i ≤ (L : Int) - 6 := c1
    refine gq_aln C 0 dL_law_27 rfl rfl rfl ?_
    refine gq_iln C 3 dL_law_28 rfl rfl rfl ?_
    refine l_sld C hX hbl hbA hL (by omega) (by omega) dL_law_29 rfl ?_
    refine gq_bi C dL_law_30 (by decide +kernel) rfl ?_
    refine gq_andk C dL_law_32 rfl (fun z hz0 hz1 => ?_)
    have kk : lawG p l e s m below meth c b 1570 [(0, .ref b), (1, .ref x0), (2, .ref m0), (3, zv i)] [] (lP cy D (fun q : Nat => s.heap.size ≤ q) s.heap x0 m0) := by
      refine gq_inc (lv' := [(3, zv (i + 6)), (0, .ref b), (1, .ref x0), (2, .ref m0)]) C 3 dL_law_1570 rfl (by decide) rfl rfl ?_
      refine gq_goto C 18 dL_law_1573 (by decide) ?_
      refine gq_pick (lv' := [(0, .ref b), (1, .ref x0), (2, .ref m0), (3, zv (i + 6))]) [1, 2, 3, 0] rfl ?_
      exact ih (i + 6) (by omega) (by omega) (by omega)
    by_cases hz : z ≤ 47
    · obtain ⟨k, rfl⟩ : ∃ k : Nat, z = (k : Int) := ⟨z.toNat, by omega⟩
      exact law_sw C hXX hEs hX hbl hL hi0 (by omega) kk t k (by omega)
    · exact gq_tabO C 1570 dL_law_33 (by omega) (by omega) (by decide) (by decide) (l_in kk)

set_option maxRecDepth 100000 in
set_option maxHeartbeats 4000000 in
theorem whole_start {p : Program} {e : Env} {s : State} {m : MethodId} {below : List Frame} {meth : Method} {c : Code} (l : Launch) {b L : Nat} {xs : Nat → Int32} (hL : L ≤ 3072) (C0 : lw_At p s m meth c b L xs) : W p l e room_1 s m #[Value.ref b] below meth c s.heap [] 0 0 (lw_Z below #[Value.ref b] s) (entryFrame m ([Value.ref b] : List Value).toArray 4) := by
  obtain ⟨hx, hb, hr, hml, hown0, hts0, hX, hbl, hlocks, hgv⟩ := id C0
  have hown : s.vm.findClass RL = some m.cls := hown0
  have hts : ∀ w ∈ wsL_law, w.before #[Value.ref b] s = true := fun w h => hts0 w (wsL_law_in w h)
  have hA : ∀ q : Nat, s.heap.size ≤ q → (fun q : Nat => s.heap.size ≤ q) q := fun _ h => h
  obtain ⟨dC, dI, cy, hEV⟩ := law_EV hts0 hts
  obtain ⟨kq, vq, bf, hV⟩ := law_SV hts0 hgv
  obtain ⟨k2, v2, b2, hV2⟩ := law_SG hts0 hgv
  obtain ⟨E, hEd⟩ : ∃ E : (Nat → Prop) → State → Prop, ∀ A U, E A U ↔ EV dC dI cy U ∧ SV kq vq bf A U ∧ SG k2 v2 b2 A U := ⟨fun A U => EV dC dI cy U ∧ SV kq vq bf A U ∧ SG k2 v2 b2 A U, fun _ _ => Iff.rfl⟩
  have hE : fx_env E (dC, dI) classes (tys cy) nestW := ⟨fun A U h => ⟨((hEd A U).mp h).1.1, ((hEd A U).mp h).1.2.1⟩, fun A B s U hW hq hAB h => (hEd B U).mpr ⟨((hEd A s).mp h).1.moved hW, ((hEd A s).mp h).2.1.step hW hq hAB, ((hEd A s).mp h).2.2.step hW hq hAB⟩, fun A U g mk a h => (hEd A _).mpr ⟨((hEd A U).mp h).1.call, ((hEd A U).mp h).2.1.call, ((hEd A U).mp h).2.2.call⟩⟩
  have hXX : fxX E (dC, dI) cy := ⟨hE, k2, v2, b2, fun A U h => ((hEd A U).mp h).2.2⟩
  have hEX : ∀ A U, E A U → EV dC dI cy U ∧ SV kq vq bf A U := fun A U h => ⟨((hEd A U).mp h).1, ((hEd A U).mp h).2.1⟩
  have hEs : E (fun q : Nat => s.heap.size ≤ q) s := (hEd _ _).mpr ⟨hEV, hV, hV2⟩
  have hK := hEV.1
  have C : gC p s m #[Value.ref b] c code 4 RL := ⟨hx, hb, hml, hts, hown, trivial⟩
  have hl := lv_entry ([.ref b]) (n := 4) (Nat.le_of_ble_eq_true rfl)
  rw [lg_entry_eq]
  generalize (lg_sl ([.ref b]) ++ List.replicate (4 - (lg_sl ([.ref b])).length) Slot.unset).toArray = ls at hl ⊢
  have hl : lv_has ls 4 [(0, .ref b)] := hl
  have go : GW p l e room_1 s m #[Value.ref b] below meth c (lw_Z below #[Value.ref b] s) code 4 0 0 0 [(0, .ref b)] [] (kP TXZ cy (dC, dI) (fun q : Nat => s.heap.size ≤ q) s.heap (fun _ => True) [] []) := by
    refine k_new (C0 := RX11) (T0 := TX11) (N := 9) (ci := 11) C hK hA inlX11 tyX11 tyX11_ok m_0 m_1 m_2 rfl dfX11 (Nat.le_of_ble_eq_true rfl) (Nat.le_of_ble_eq_true rfl) dL_law_0 rfl (fun x0 => ?_)
    refine gq_dup C dL_law_3 rfl rfl ?_
    refine k_init (gc' := fun _ => True) (fr := []) (As := []) (rest := [.ref x0]) C hE hEs rfl hA (kc_X11 hE hEX) (fun _ _ _ _ => trivial) (cwI 0 C.2.2.2.1 (gdI m_8) rfl rfl rfl (C.2.2.2.1 _ m_2) (C.2.2.2.1 _ m_6) (C.2.2.2.1 _ m_7) rfl (by decide +kernel) ⟨Nat.le_of_ble_eq_true rfl, Nat.le_of_ble_eq_true rfl⟩) rfl rfl (Nat.le_of_ble_eq_true rfl) dL_law_4 ⟨Nat.le_of_ble_eq_true rfl, Nat.le_of_ble_eq_true rfl⟩ rfl ?_
    refine gq_astn (lv' := [(1, .ref x0), (0, .ref b)]) C dL_law_7 rfl (by decide) rfl rfl ?_
    intro H locs ls hl hh
    obtain ⟨wx, gx, ax, -, h2, h3, h4, h5, h6, h7⟩ := hh
    have hrt : rt gx ax (x0, 0) := h4 _ (by simp)
    have hP : va_P (dC, dI) classes wx H := h5
    have hD : va_D (fun q : Nat => s.heap.size ≤ q) wx := h6
    refine va_new (ci := 12) (fs := [.null, .null, .int 0, .int 0, .int 0, .int 0, .int 0, .int 0, .int 0, .int 0, .long 0, .null, .null, .null, .null, .null, .null, .null, .null, .null, .null, .null, .null, .null, .null, .null, .null, .null, .null, .null, .null, .null, .null, .null, .int 0, .int 0, .int 0, .int 0, .int 0, .int 0, .int 0, .null, .null, .null, .null, .int 0, .int 0, .int 0, .null, .int 0, .int 0, .null, .null, .null, .null, .int 0, .null, .null, .null, .int 0, .null, .null, .null, .null, .null, .null, .null, .null, .null, .int 0, .int 0, .int 0, .null, .null]) (C := RX12) (T := TX12) (N := 74) hx hb hts inlX12 tyX12 tyX12_ok hown (hts _ m_3) (hts _ m_4) (hts _ m_5) hK hP hD h7 hA rfl dfX12 (Nat.le_of_ble_eq_true rfl) (Nat.le_of_ble_eq_true rfl) dL_law_8 (fun m0 H hP hD hS => ?_)
    refine lv_dup hx hb dL_law_11 rfl ?_
    refine w_init (cy := cy) (As := []) (rest := [.ref m0]) (POST := fun wm => ∃ am : List Nat, fx_wo (gsM, TM, cy, fun _ => True) am wm ∧ am[0]? = some m0 ∧ JM wm ∧ vi wm 0 70 = 0) C hE hEs rfl hA hl (kc_X12 hE m0 H.size) (fun a st oc t hq => ?_) (cwI 0 C.2.2.2.1 (gdI m_216) rfl rfl rfl (C.2.2.2.1 _ m_5) (C.2.2.2.1 _ m_214) (C.2.2.2.1 _ m_215) rfl (by decide +kernel) ⟨Nat.le_of_ble_eq_true rfl, Nat.le_of_ble_eq_true rfl⟩) rfl rfl (Nat.le_of_ble_eq_true rfl) dL_law_12 ⟨Nat.le_of_ble_eq_true rfl, Nat.le_of_ble_eq_true rfl⟩ hP hD hS (fun wm H1 locs1 q1 q2 q3 q4 q5 => ?_)
    · obtain ⟨⟨e1, ws, ad, p1, p2, p3, p4, p5, p6, p7, p8, p9⟩, hF⟩ := hq
      exact ⟨⟨e1, ws, p1, p3, ad, p2, p4, ⟨p5, p6, p7, p8⟩, p9⟩, hF⟩
    · obtain ⟨am, r1, r2, r3, r4⟩ := q5
      have fin : GW p l e room_1 s m #[Value.ref b] below meth c (lw_Z below #[Value.ref b] s) code 4 273 27104 15 [(1, .ref x0), (0, .ref b)] [.ref m0] (lP cy (dC, dI) (fun q : Nat => s.heap.size ≤ q) s.heap x0 m0) := by
        refine gq_astn (lv' := [(2, .ref m0), (1, .ref x0), (0, .ref b)]) C dL_law_15 rfl (by decide) rfl rfl ?_
        refine gq_ic C dL_law_16 rfl ?_
        refine gq_isn (lv' := [(3, zv 0), (2, .ref m0), (1, .ref x0), (0, .ref b)]) C dL_law_17 rfl (by decide) rfl rfl ?_
        refine gq_pick (lv' := [(0, .ref b), (1, .ref x0), (2, .ref m0), (3, zv 0)]) [3, 2, 1, 0] rfl ?_
        exact law_loop C hXX hEs hX hbl hL hr hlocks _ 0 (Nat.lt_succ_self _) (by decide) (by decide)
      exact fin H1 locs1 ls hl ⟨0, gx, ax, wx, am, wm, sbW_ok TXZ_sub h3, hrt, TRX_0 h3 hrt, r1, r2, r3, r4, q1, q2, q3, q4⟩
  exact go s.heap [] ls hl ⟨[], [], [], trivial, rfl, ⟨rfl, fun k a e hk => by simp at hk⟩, (fun q hq => by simp at hq), (fun k q h => by simp at h), ⟨fun i j p q h => by simp at h, fun k q h => by simp at h⟩, va_S.rf⟩

