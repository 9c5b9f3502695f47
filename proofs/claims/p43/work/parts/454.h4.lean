theorem dX12_place_0 : decode cX12_place 0 = .ok (.sipush 169, 3) := by decide +kernel
theorem dX12_place_3 : decode cX12_place 3 = .ok (.iload_n 0, 1) := by decide +kernel
theorem dX12_place_4 : decode cX12_place 4 = .ok (.imul, 1) := by decide +kernel
theorem dX12_place_5 : decode cX12_place 5 = .ok (.bipush 13, 2) := by decide +kernel
theorem dX12_place_7 : decode cX12_place 7 = .ok (.iload_n 1, 1) := by decide +kernel
theorem dX12_place_8 : decode cX12_place 8 = .ok (.imul, 1) := by decide +kernel
theorem dX12_place_9 : decode cX12_place 9 = .ok (.iadd, 1) := by decide +kernel
theorem dX12_place_10 : decode cX12_place 10 = .ok (.iload_n 2, 1) := by decide +kernel
theorem dX12_place_11 : decode cX12_place 11 = .ok (.iadd, 1) := by decide +kernel
theorem dX12_place_12 : decode cX12_place 12 = .ok (.ireturn, 1) := by decide +kernel
theorem dX12_stepBy_54 : decode cX12_stepBy 54 = .ok (.iload 4, 2) := by decide +kernel
theorem dX12_stepBy_56 : decode cX12_stepBy 56 = .ok (.aload_n 0, 1) := by decide +kernel
theorem dX12_stepBy_57 : decode cX12_stepBy 57 = .ok (.getfield 443, 3) := by decide +kernel
theorem dX12_stepBy_60 : decode cX12_stepBy 60 = .ok (.if_icmp .ge 21, 3) := by decide +kernel
theorem dX12_stepBy_81 : decode cX12_stepBy 81 = .ok (.iload 4, 2) := by decide +kernel
theorem dX12_stepBy_83 : decode cX12_stepBy 83 = .ok (.istore 7, 2) := by decide +kernel
theorem dX12_stepBy_85 : decode cX12_stepBy 85 = .ok (.iload 5, 2) := by decide +kernel
theorem dX12_stepBy_87 : decode cX12_stepBy 87 = .ok (.iload 6, 2) := by decide +kernel
theorem dX12_stepBy_89 : decode cX12_stepBy 89 = .ok (.iload 7, 2) := by decide +kernel
theorem dX12_stepBy_91 : decode cX12_stepBy 91 = .ok (.invokestatic 446, 3) := by decide +kernel
theorem dX12_stepBy_94 : decode cX12_stepBy 94 = .ok (.ireturn, 1) := by decide +kernel
theorem dX12_stepBy_63 : decode cX12_stepBy 63 = .ok (.aload_n 0, 1) := by decide +kernel
theorem dX12_stepBy_64 : decode cX12_stepBy 64 = .ok (.getfield 101, 3) := by decide +kernel
theorem dX12_stepBy_67 : decode cX12_stepBy 67 = .ok (.iload 4, 2) := by decide +kernel
theorem dX12_stepBy_69 : decode cX12_stepBy 69 = .ok (.iaload, 1) := by decide +kernel
theorem dX12_stepBy_70 : decode cX12_stepBy 70 = .ok (.iload_n 1, 1) := by decide +kernel
theorem dX12_stepBy_71 : decode cX12_stepBy 71 = .ok (.if_icmp .ne 10, 3) := by decide +kernel
theorem dX12_stepBy_74 : decode cX12_stepBy 74 = .ok (.iload 4, 2) := by decide +kernel
theorem dX12_stepBy_76 : decode cX12_stepBy 76 = .ok (.iconst 1, 1) := by decide +kernel
theorem dX12_stepBy_77 : decode cX12_stepBy 77 = .ok (.iadd, 1) := by decide +kernel
theorem dX12_stepBy_78 : decode cX12_stepBy 78 = .ok (.goto 5, 3) := by decide +kernel
theorem dX12_stepBy_27 : decode cX12_stepBy 27 = .ok (.iload_n 3, 1) := by decide +kernel
theorem dX12_stepBy_28 : decode cX12_stepBy 28 = .ok (.aload_n 0, 1) := by decide +kernel
theorem dX12_stepBy_29 : decode cX12_stepBy 29 = .ok (.getfield 390, 3) := by decide +kernel
theorem dX12_stepBy_32 : decode cX12_stepBy 32 = .ok (.if_icmp .ge 19, 3) := by decide +kernel
theorem dX12_stepBy_51 : decode cX12_stepBy 51 = .ok (.iload_n 3, 1) := by decide +kernel
theorem dX12_stepBy_52 : decode cX12_stepBy 52 = .ok (.istore 6, 2) := by decide +kernel
theorem dX12_stepBy_35 : decode cX12_stepBy 35 = .ok (.aload_n 0, 1) := by decide +kernel
theorem dX12_stepBy_36 : decode cX12_stepBy 36 = .ok (.getfield 98, 3) := by decide +kernel
theorem dX12_stepBy_39 : decode cX12_stepBy 39 = .ok (.iload_n 3, 1) := by decide +kernel
theorem dX12_stepBy_40 : decode cX12_stepBy 40 = .ok (.iaload, 1) := by decide +kernel
theorem dX12_stepBy_41 : decode cX12_stepBy 41 = .ok (.iload_n 1, 1) := by decide +kernel
theorem dX12_stepBy_42 : decode cX12_stepBy 42 = .ok (.if_icmp .ne 9, 3) := by decide +kernel
theorem dX12_stepBy_45 : decode cX12_stepBy 45 = .ok (.iload_n 3, 1) := by decide +kernel
theorem dX12_stepBy_46 : decode cX12_stepBy 46 = .ok (.iconst 1, 1) := by decide +kernel
theorem dX12_stepBy_47 : decode cX12_stepBy 47 = .ok (.iadd, 1) := by decide +kernel
theorem dX12_stepBy_48 : decode cX12_stepBy 48 = .ok (.goto 4, 3) := by decide +kernel
theorem dX12_stepBy_0 : decode cX12_stepBy 0 = .ok (.iload_n 2, 1) := by decide +kernel
theorem dX12_stepBy_1 : decode cX12_stepBy 1 = .ok (.aload_n 0, 1) := by decide +kernel
theorem dX12_stepBy_2 : decode cX12_stepBy 2 = .ok (.getfield 384, 3) := by decide +kernel
theorem dX12_stepBy_5 : decode cX12_stepBy 5 = .ok (.if_icmp .ge 19, 3) := by decide +kernel
theorem dX12_stepBy_24 : decode cX12_stepBy 24 = .ok (.iload_n 2, 1) := by decide +kernel
theorem dX12_stepBy_25 : decode cX12_stepBy 25 = .ok (.istore 5, 2) := by decide +kernel
theorem dX12_stepBy_8 : decode cX12_stepBy 8 = .ok (.aload_n 0, 1) := by decide +kernel
theorem dX12_stepBy_9 : decode cX12_stepBy 9 = .ok (.getfield 95, 3) := by decide +kernel
theorem dX12_stepBy_12 : decode cX12_stepBy 12 = .ok (.iload_n 2, 1) := by decide +kernel
theorem dX12_stepBy_13 : decode cX12_stepBy 13 = .ok (.iaload, 1) := by decide +kernel
theorem dX12_stepBy_14 : decode cX12_stepBy 14 = .ok (.iload_n 1, 1) := by decide +kernel
theorem dX12_stepBy_15 : decode cX12_stepBy 15 = .ok (.if_icmp .ne 9, 3) := by decide +kernel
theorem dX12_stepBy_18 : decode cX12_stepBy 18 = .ok (.iload_n 2, 1) := by decide +kernel
theorem dX12_stepBy_19 : decode cX12_stepBy 19 = .ok (.iconst 1, 1) := by decide +kernel
theorem dX12_stepBy_20 : decode cX12_stepBy 20 = .ok (.iadd, 1) := by decide +kernel
theorem dX12_stepBy_21 : decode cX12_stepBy 21 = .ok (.goto 4, 3) := by decide +kernel
-- shortest rows: pure
def plc (a b c : Int) : Int := 169 * a + 13 * b + c
def sb1 (L : Int) (o : Nat → Int) (v a : Int) : Int := if a < L ∧ o a.toNat = v then a + 1 else a
def EN (ws : va_W) (L1 L2 L3 W : Int) (o t h : Nat → Int) : Prop := vi ws 0 45 = L1 ∧ vi ws 0 46 = L2 ∧ vi ws 0 47 = L3 ∧ vi ws 3 (Int.toNat (vi ws 0 34)) = W ∧ (∀ j, vi ws 27 j = o j) ∧ (∀ j, vi ws 28 j = t j) ∧ ∀ j, vi ws 29 j = h j
def sbp (L1 L2 L3 : Int) (o t h : Nat → Int) (v a b c : Int) : Int := plc (sb1 L1 o v a) (sb1 L2 t v b) (sb1 L3 h v c)
def PLs (L1 L2 L3 W : Int) (o t h : Nat → Int) (N : Nat → Int) (a b c : Int) : Prop := 0 ≤ N (plc a b c).toNat ∧ N (plc a b c).toNat ≤ (L1 - a) + (L2 - b) + (L3 - c) ∧ (0 < N (plc a b c).toNat → ∃ v, 0 ≤ v ∧ v < W ∧ ¬ sbp L1 L2 L3 o t h v a b c = plc a b c ∧ N (sbp L1 L2 L3 o t h v a b c).toNat = N (plc a b c).toNat - 1)
def rgT (L1 L2 L3 a b c : Int) : Prop := 0 ≤ a ∧ a ≤ L1 ∧ 0 ≤ b ∧ b ≤ L2 ∧ 0 ≤ c ∧ c ≤ L3
def AL (L1 L2 L3 W : Int) (o t h : Nat → Int) (N : Nat → Int) (p : Int) : Prop := ∀ a b c, rgT L1 L2 L3 a b c → p < plc a b c → PLs L1 L2 L3 W o t h N a b c
def OWs (L W : Int) (o : Nat → Int) : Prop := ∀ j : Nat, (j : Int) < L → 0 ≤ o j ∧ o j < W
theorem sb1_c (L : Int) (o : Nat → Int) (v a : Int) : (sb1 L o v a = a ∧ ¬ (a < L ∧ o a.toNat = v)) ∨ (sb1 L o v a = a + 1 ∧ a < L ∧ o a.toNat = v) := by
  unfold sb1
  split
  · rename_i h; exact Or.inr ⟨rfl, h⟩
  · rename_i h; exact Or.inl ⟨rfl, h⟩
theorem en_sm {cy : Nat → ClassId} {ad : List Nat} {md : List (Nat × Nat)} {w w' : va_W} {L1 L2 L3 W : Int} {o t h : Nat → Int} (hw : fx_wo (gsM, TM, cy, fun _ => True) ad w) (hw' : fx_wo (gsM, TM, cy, fun _ => True) ad w') (hs : fx_sm (gsM, TM, cy, fun _ => True) md w w') (hm : (12, 45) ∉ md ∧ (12, 46) ∉ md ∧ (12, 47) ∉ md ∧ (12, 34) ∉ md ∧ (1000, 3) ∉ md ∧ (1000, 27) ∉ md ∧ (1000, 28) ∉ md ∧ (1000, 29) ∉ md) (hE : EN w L1 L2 L3 W o t h) : EN w' L1 L2 L3 W o t h := by
  obtain ⟨h1, h2, h3, h4, h5, h6, h7⟩ := hE
  obtain ⟨m1, m2, m3, m4, m5, m6, m7, m8⟩ := hm
  refine ⟨?_, ?_, ?_, ?_, fun j => ?_, fun j => ?_, fun j => ?_⟩
  · rw [sm_f hw hw' hs m1]; exact h1
  · rw [sm_f hw hw' hs m2]; exact h2
  · rw [sm_f hw hw' hs m3]; exact h3
  · rw [sm_f hw hw' hs m4, sm_a hw hw' hs TMa_3 m5]; exact h4
  · rw [sm_a hw hw' hs TMa_27 m6]; exact h5 j
  · rw [sm_a hw hw' hs TMa_28 m7]; exact h6 j
  · rw [sm_a hw hw' hs TMa_29 m8]; exact h7 j
/-- one more word looked at: the least so far -/
def LN (L1 L2 L3 : Int) (o t h : Nat → Int) (N : Nat → Int) (a b c v : Int) : Prop := 0 ≤ N (plc a b c).toNat ∧ (N (plc a b c).toNat = 1000 ∨ ∃ v0, 0 ≤ v0 ∧ v0 < v ∧ ¬ sbp L1 L2 L3 o t h v0 a b c = plc a b c ∧ N (sbp L1 L2 L3 o t h v0 a b c).toNat + 1 = N (plc a b c).toNat) ∧ ∀ v0, 0 ≤ v0 → v0 < v → ¬ sbp L1 L2 L3 o t h v0 a b c = plc a b c → N (plc a b c).toNat ≤ N (sbp L1 L2 L3 o t h v0 a b c).toNat + 1
theorem sbp_rg {L1 L2 L3 : Int} {o t h : Nat → Int} {v a b c : Int} (hr : rgT L1 L2 L3 a b c) : ∃ x y z, sbp L1 L2 L3 o t h v a b c = plc x y z ∧ rgT L1 L2 L3 x y z ∧ a ≤ x ∧ b ≤ y ∧ c ≤ z ∧ x ≤ a + 1 ∧ y ≤ b + 1 ∧ z ≤ c + 1 := by
  obtain ⟨r1, r2, r3, r4, r5, r6⟩ := hr
  refine ⟨_, _, _, rfl, ?_⟩
  rcases sb1_c L1 o v a with ⟨e1, q1⟩ | ⟨e1, q1, _⟩ <;> rcases sb1_c L2 t v b with ⟨e2, q2⟩ | ⟨e2, q2, _⟩ <;> rcases sb1_c L3 h v c with ⟨e3, q3⟩ | ⟨e3, q3, _⟩ <;> rw [e1, e2, e3] <;> unfold rgT <;> omega
theorem LN_end {L1 L2 L3 W : Int} {o t h : Nat → Int} {N : Nat → Int} {a b c : Int} (hL : L1 ≤ 12 ∧ L2 ≤ 12 ∧ L3 ≤ 12) (hr : rgT L1 L2 L3 a b c) (ho : OWs L1 W o) (ht : OWs L2 W t) (hh : OWs L3 W h) (hd : ¬ (a = L1 ∧ b = L2 ∧ c = L3)) (hA : AL L1 L2 L3 W o t h N (plc a b c)) (hN : LN L1 L2 L3 o t h N a b c W) : PLs L1 L2 L3 W o t h N a b c := by
  have hr' := hr
  obtain ⟨r1, r2, r3, r4, r5, r6⟩ := hr'
  -- a word that goes on
  have hv : ∃ v, 0 ≤ v ∧ v < W ∧ (sb1 L1 o v a = a + 1 ∨ sb1 L2 t v b = b + 1 ∨ sb1 L3 h v c = c + 1) := by
    by_cases q1 : a < L1
    · have := ho a.toNat (by omega)
      exact ⟨_, this.1, this.2, Or.inl (by unfold sb1; rw [if_pos ⟨q1, rfl⟩])⟩
    · by_cases q2 : b < L2
      · have := ht b.toNat (by omega)
        exact ⟨_, this.1, this.2, Or.inr (Or.inl (by unfold sb1; rw [if_pos ⟨q2, rfl⟩]))⟩
      · have := hh c.toNat (by omega)
        exact ⟨_, this.1, this.2, Or.inr (Or.inr (by unfold sb1; rw [if_pos ⟨by omega, rfl⟩]))⟩
  obtain ⟨n1, n2, n3⟩ := hN
  obtain ⟨v, v1, v2, v3⟩ := hv
  obtain ⟨x, y, z, e, hx, x1, x2, x3, x4, x5, x6⟩ := sbp_rg (o := o) (t := t) (h := h) (v := v) hr
  have e2 : sbp L1 L2 L3 o t h v a b c = plc (sb1 L1 o v a) (sb1 L2 t v b) (sb1 L3 h v c) := rfl
  obtain ⟨y1, y2, y3, y4, y5, y6⟩ := hx
  have hgt : plc a b c < plc x y z := by
    rw [← e, e2]
    rcases sb1_c L1 o v a with ⟨e1, q1⟩ | ⟨e1, q1, _⟩ <;> rcases sb1_c L2 t v b with ⟨e2', q2⟩ | ⟨e2', q2, _⟩ <;> rcases sb1_c L3 h v c with ⟨e3, q3⟩ | ⟨e3, q3, _⟩ <;> rw [e1, e2', e3] <;> unfold plc <;> omega
  have hsum : a + b + c + 1 ≤ x + y + z := by
    have : plc x y z = plc (sb1 L1 o v a) (sb1 L2 t v b) (sb1 L3 h v c) := by rw [← e, e2]
    unfold plc at this hgt
    omega
  obtain ⟨p1, p2, -⟩ := hA x y z ⟨y1, y2, y3, y4, y5, y6⟩ hgt
  have n4 := n3 v v1 v2 (by rw [e]; omega)
  rw [e] at n4
  refine ⟨n1, by omega, fun hpos => ?_⟩
  rcases n2 with n2 | ⟨v0, w1, w2, w3, w4⟩
  · omega
  · exact ⟨v0, w1, w2, w3, by omega⟩

set_option maxRecDepth 100000 in
set_option maxHeartbeats 4000000 in
theorem h_place {l : Launch} {E : (Nat → Prop) → State → Prop} {ad : List Nat} {D : va_G} {cy : Nat → ClassId} (h : fx_env E D classes (tys cy) nestW) (x y z : Int) : hM l yX12_place cX12_place 3 (some .int) ({ frames := 0, cells := 0, slots := 0, locals := 0 }) E ad D cy (fun av ws => av = [zv x, zv y, zv z] ∧ True) (fun _ ws rv ws1 => ws = ws1 ∧ rv = some (zv (plc x y z))) := by
  refine hM_of h (by decide) ?_
  intro av ws p e s m below meth c hwo hnd hpre hlocks hr C
  obtain ⟨rfl, hpre⟩ := hpre
  refine ⟨Nat.le_of_ble_eq_true rfl, ?_⟩
  refine hr_pick (lv' := [(0, zv x), (1, zv y), (2, zv z)]) [0, 1, 2] rfl ?_
  refine hr_si C dX12_place_0 (by decide +kernel) rfl ?_
  refine hr_iln C 0 dX12_place_3 rfl rfl rfl ?_
  refine hr_mul C dX12_place_4 rfl ?_
  refine hr_bi C dX12_place_5 (by decide +kernel) rfl ?_
  refine hr_iln C 1 dX12_place_7 rfl rfl rfl ?_
  refine hr_mul C dX12_place_8 rfl ?_
  refine hr_add C dX12_place_9 rfl ?_
  refine hr_iln C 2 dX12_place_10 rfl rfl rfl ?_
  refine hr_add C dX12_place_11 rfl ?_
  exact hr_iret C hlocks hr dX12_place_12 ⟨rfl, rfl⟩
set_option maxRecDepth 100000 in
set_option maxHeartbeats 4000000 in
theorem h_stepBy {l : Launch} {E : (Nat → Prop) → State → Prop} {ad : List Nat} {D : va_G} {cy : Nat → ClassId} (h : fx_env E D classes (tys cy) nestW) (r : Nat) (v a b c0 : Int) (L1 L2 L3 W : Int) (o t h0 : Nat → Int) (hr0 : ad[0]? = some r) (hv : rg v) (ha : 0 ≤ a ∧ a ≤ 12) (hb : 0 ≤ b ∧ b ≤ 12) (hc : 0 ≤ c0 ∧ c0 ≤ 12) : hM l yX12_stepBy cX12_stepBy 8 (some .int) ({ frames := 1, cells := 0, slots := 0, locals := 22 }) E ad D cy (fun av ws => av = [.ref r, zv v, zv a, zv b, zv c0] ∧ EN ws L1 L2 L3 W o t h0) (fun _ ws rv ws1 => ws = ws1 ∧ rv = some (zv (sbp L1 L2 L3 o t h0 v a b c0))) := by
  refine hM_of h (by decide) ?_
  intro av ws p e s m below meth c hwo hnd hpre hlocks hr C
  obtain ⟨rfl, hpre⟩ := hpre
  refine ⟨Nat.le_of_ble_eq_true rfl, ?_⟩
  obtain ⟨n1, n2, n3, n4, n5, n6, n7⟩ := hpre
  simp only [rg] at hv
  refine hr_pick (lv' := [(0, .ref r), (1, zv v), (2, zv a), (3, zv b), (4, zv c0)]) [0, 1, 2, 3, 4] rfl ?_
  have s3 : ∀ x y : Int, x = sb1 L1 o v a → y = sb1 L2 t v b → HW l E ad D cy (va_A ws s.heap.size) s.heap p e ({ frames := 1, cells := 0, slots := 0, locals := 22 }) s m ([.ref r, zv v, zv a, zv b, zv c0]).toArray below meth c (MQ below (hQ ad D cy (fun _ ws rv ws1 => ws = ws1 ∧ rv = some (zv (sbp L1 L2 L3 o t h0 v a b c0))) ([.ref r, zv v, zv a, zv b, zv c0]) ws s.heap.size) ([.ref r, zv v, zv a, zv b, zv c0]).toArray s 0 0 (va_A ws s.heap.size)) cX12_stepBy 8 yX12_stepBy.cls 54 [(0, .ref r), (1, zv v), (4, zv c0), (5, zv x), (6, zv y)] [] ws := by
    intro x y hx hy
    refine hr_il C 2 dX12_stepBy_54 rfl rfl ?_
    refine hr_aln C 0 dX12_stepBy_56 rfl rfl rfl ?_
    refine hr_gI (lo := 0) (hi := 12) C hr0 TM0 rfl fl_X12_443 dX12_stepBy_57 rfl (fun b1 b2 => ?_)
    refine hr_cmp C 81 dX12_stepBy_60 (by decide) ⟨by omega, by omega⟩ ⟨by omega, by omega⟩ rfl (fun c3 => ?_) (fun c3 => ?_)
    · have c3 : vi ws 0 47 ≤ c0 := c3
      refine hr_il C 2 dX12_stepBy_81 rfl rfl ?_
      refine hr_is (lv' := [(7, zv (c0)), (0, .ref r), (1, zv (v)), (4, zv (c0)), (5, zv (x)), (6, zv (y))]) C dX12_stepBy_83 (by decide) rfl rfl ?_
      have hz : c0 = sb1 L3 h0 v c0 := (by unfold sb1; first | rw [if_pos ⟨by omega, by rw [← n7]; omega⟩] | rw [if_neg (by rw [← n7]; omega)])
      refine hr_il C 4 dX12_stepBy_85 rfl rfl ?_
      refine hr_il C 5 dX12_stepBy_87 rfl rfl ?_
      refine hr_il C 0 dX12_stepBy_89 rfl rfl ?_
      refine hr_cS (As := [zv (x), zv (y), zv (c0)]) (rest := []) C (h_place h (x) (y) (c0)) ⟨by decide, by decide⟩ iS_X12_place g_X12_446 dX12_stepBy_91 rfl rfl (Nat.le_of_ble_eq_true rfl) rfl ⟨rfl, trivial⟩ (fun w4 rv o5 q6 => ?_)
      obtain ⟨rfl, rfl⟩ := q6
      refine hr_norm (st' := [zv (plc (x) (y) (c0))]) rfl ?_
      exact hr_iret C hlocks hr dX12_stepBy_94 ⟨rfl, by rw [hx, hy]; unfold sbp; rw [← hz]⟩
    · have c3 : c0 < vi ws 0 47 := c3
      refine hr_aln C 0 dX12_stepBy_63 rfl rfl rfl ?_
      refine hr_gA (g := 29) C hr0 TM0 rfl (by decide) fl_X12_101 dX12_stepBy_64 rfl (fun a7 ha8 => ?_)
      refine hr_il C 2 dX12_stepBy_67 rfl rfl ?_
      refine hr_ald C ha8 TMa_29 (by omega) (by omega) (by decide) dX12_stepBy_69 rfl (fun b9 b10 => ?_)
      have b9 := gp1 b9
      simp only [rg] at b10
      refine hr_iln C 1 dX12_stepBy_70 rfl rfl rfl ?_
      refine hr_cmp C 81 dX12_stepBy_71 (by decide) ⟨by omega, by omega⟩ ⟨by omega, by omega⟩ rfl (fun c11 => ?_) (fun c11 => ?_)
      · have c11 : ¬ vi ws 29 (Int.toNat (c0)) = v := c11
        refine hr_il C 2 dX12_stepBy_81 rfl rfl ?_
        refine hr_is (lv' := [(7, zv (c0)), (0, .ref r), (1, zv (v)), (4, zv (c0)), (5, zv (x)), (6, zv (y))]) C dX12_stepBy_83 (by decide) rfl rfl ?_
        have hz : c0 = sb1 L3 h0 v c0 := (by unfold sb1; first | rw [if_pos ⟨by omega, by rw [← n7]; omega⟩] | rw [if_neg (by rw [← n7]; omega)])
        refine hr_il C 4 dX12_stepBy_85 rfl rfl ?_
        refine hr_il C 5 dX12_stepBy_87 rfl rfl ?_
        refine hr_il C 0 dX12_stepBy_89 rfl rfl ?_
        refine hr_cS (As := [zv (x), zv (y), zv (c0)]) (rest := []) C (h_place h (x) (y) (c0)) ⟨by decide, by decide⟩ iS_X12_place g_X12_446 dX12_stepBy_91 rfl rfl (Nat.le_of_ble_eq_true rfl) rfl ⟨rfl, trivial⟩ (fun w12 rv o13 q14 => ?_)
        obtain ⟨rfl, rfl⟩ := q14
        refine hr_norm (st' := [zv (plc (x) (y) (c0))]) rfl ?_
        exact hr_iret C hlocks hr dX12_stepBy_94 ⟨rfl, by rw [hx, hy]; unfold sbp; rw [← hz]⟩
      · have c11 : vi ws 29 (Int.toNat (c0)) = v := c11
        refine hr_il C 2 dX12_stepBy_74 rfl rfl ?_
        refine hr_ic C dX12_stepBy_76 rfl ?_
        refine hr_add C dX12_stepBy_77 rfl ?_
        refine hr_goto C 83 dX12_stepBy_78 (by decide) ?_
        refine hr_is (lv' := [(7, zv (c0 + 1)), (0, .ref r), (1, zv (v)), (4, zv (c0)), (5, zv (x)), (6, zv (y))]) C dX12_stepBy_83 (by decide) rfl rfl ?_
        have hz : c0 + 1 = sb1 L3 h0 v c0 := (by unfold sb1; first | rw [if_pos ⟨by omega, by rw [← n7]; omega⟩] | rw [if_neg (by rw [← n7]; omega)])
        refine hr_il C 4 dX12_stepBy_85 rfl rfl ?_
        refine hr_il C 5 dX12_stepBy_87 rfl rfl ?_
        refine hr_il C 0 dX12_stepBy_89 rfl rfl ?_
        refine hr_cS (As := [zv (x), zv (y), zv (c0 + 1)]) (rest := []) C (h_place h (x) (y) (c0 + 1)) ⟨by decide, by decide⟩ iS_X12_place g_X12_446 dX12_stepBy_91 rfl rfl (Nat.le_of_ble_eq_true rfl) rfl ⟨rfl, trivial⟩ (fun w15 rv o16 q17 => ?_)
        obtain ⟨rfl, rfl⟩ := q17
        refine hr_norm (st' := [zv (plc (x) (y) (c0 + 1))]) rfl ?_
        exact hr_iret C hlocks hr dX12_stepBy_94 ⟨rfl, by rw [hx, hy]; unfold sbp; rw [← hz]⟩
  have s2 : ∀ x : Int, x = sb1 L1 o v a → HW l E ad D cy (va_A ws s.heap.size) s.heap p e ({ frames := 1, cells := 0, slots := 0, locals := 22 }) s m ([.ref r, zv v, zv a, zv b, zv c0]).toArray below meth c (MQ below (hQ ad D cy (fun _ ws rv ws1 => ws = ws1 ∧ rv = some (zv (sbp L1 L2 L3 o t h0 v a b c0))) ([.ref r, zv v, zv a, zv b, zv c0]) ws s.heap.size) ([.ref r, zv v, zv a, zv b, zv c0]).toArray s 0 0 (va_A ws s.heap.size)) cX12_stepBy 8 yX12_stepBy.cls 27 [(0, .ref r), (1, zv v), (3, zv b), (4, zv c0), (5, zv x)] [] ws := by
    intro x hx
    refine hr_iln C 2 dX12_stepBy_27 rfl rfl rfl ?_
    refine hr_aln C 0 dX12_stepBy_28 rfl rfl rfl ?_
    refine hr_gI (lo := 0) (hi := 12) C hr0 TM0 rfl fl_X12_390 dX12_stepBy_29 rfl (fun b1 b2 => ?_)
    refine hr_cmp C 51 dX12_stepBy_32 (by decide) ⟨by omega, by omega⟩ ⟨by omega, by omega⟩ rfl (fun c3 => ?_) (fun c3 => ?_)
    · have c3 : vi ws 0 46 ≤ b := c3
      refine hr_iln C 2 dX12_stepBy_51 rfl rfl rfl ?_
      refine hr_is (lv' := [(6, zv (b)), (0, .ref r), (1, zv (v)), (3, zv (b)), (4, zv (c0)), (5, zv (x))]) C dX12_stepBy_52 (by decide) rfl rfl ?_
      refine hr_pick (lv' := [(0, .ref r), (1, zv (v)), (4, zv (c0)), (5, zv (x)), (6, zv (b))]) [1, 2, 4, 5, 0] rfl ?_
      exact s3 _ _ hx (by unfold sb1; first | rw [if_pos ⟨by omega, by rw [← n6]; omega⟩] | rw [if_neg (by rw [← n6]; omega)])
    · have c3 : b < vi ws 0 46 := c3
      refine hr_aln C 0 dX12_stepBy_35 rfl rfl rfl ?_
      refine hr_gA (g := 28) C hr0 TM0 rfl (by decide) fl_X12_98 dX12_stepBy_36 rfl (fun a4 ha5 => ?_)
      refine hr_iln C 2 dX12_stepBy_39 rfl rfl rfl ?_
      refine hr_ald C ha5 TMa_28 (by omega) (by omega) (by decide) dX12_stepBy_40 rfl (fun b6 b7 => ?_)
      have b6 := gp1 b6
      simp only [rg] at b7
      refine hr_iln C 1 dX12_stepBy_41 rfl rfl rfl ?_
      refine hr_cmp C 51 dX12_stepBy_42 (by decide) ⟨by omega, by omega⟩ ⟨by omega, by omega⟩ rfl (fun c8 => ?_) (fun c8 => ?_)
      · have c8 : ¬ vi ws 28 (Int.toNat (b)) = v := c8
        refine hr_iln C 2 dX12_stepBy_51 rfl rfl rfl ?_
        refine hr_is (lv' := [(6, zv (b)), (0, .ref r), (1, zv (v)), (3, zv (b)), (4, zv (c0)), (5, zv (x))]) C dX12_stepBy_52 (by decide) rfl rfl ?_
        refine hr_pick (lv' := [(0, .ref r), (1, zv (v)), (4, zv (c0)), (5, zv (x)), (6, zv (b))]) [1, 2, 4, 5, 0] rfl ?_
        exact s3 _ _ hx (by unfold sb1; first | rw [if_pos ⟨by omega, by rw [← n6]; omega⟩] | rw [if_neg (by rw [← n6]; omega)])
      · have c8 : vi ws 28 (Int.toNat (b)) = v := c8
        refine hr_iln C 2 dX12_stepBy_45 rfl rfl rfl ?_
        refine hr_ic C dX12_stepBy_46 rfl ?_
        refine hr_add C dX12_stepBy_47 rfl ?_
        refine hr_goto C 52 dX12_stepBy_48 (by decide) ?_
        refine hr_is (lv' := [(6, zv (b + 1)), (0, .ref r), (1, zv (v)), (3, zv (b)), (4, zv (c0)), (5, zv (x))]) C dX12_stepBy_52 (by decide) rfl rfl ?_
        refine hr_pick (lv' := [(0, .ref r), (1, zv (v)), (4, zv (c0)), (5, zv (x)), (6, zv (b + 1))]) [1, 2, 4, 5, 0] rfl ?_
        exact s3 _ _ hx (by unfold sb1; first | rw [if_pos ⟨by omega, by rw [← n6]; omega⟩] | rw [if_neg (by rw [← n6]; omega)])
  refine hr_iln C 2 dX12_stepBy_0 rfl rfl rfl ?_
  refine hr_aln C 0 dX12_stepBy_1 rfl rfl rfl ?_
  refine hr_gI (lo := 0) (hi := 12) C hr0 TM0 rfl fl_X12_384 dX12_stepBy_2 rfl (fun b1 b2 => ?_)
  refine hr_cmp C 24 dX12_stepBy_5 (by decide) ⟨by omega, by omega⟩ ⟨by omega, by omega⟩ rfl (fun c3 => ?_) (fun c3 => ?_)
  · have c3 : vi ws 0 45 ≤ a := c3
    refine hr_iln C 2 dX12_stepBy_24 rfl rfl rfl ?_
    refine hr_is (lv' := [(5, zv (a)), (0, .ref r), (1, zv (v)), (2, zv (a)), (3, zv (b)), (4, zv (c0))]) C dX12_stepBy_25 (by decide) rfl rfl ?_
    refine hr_pick (lv' := [(0, .ref r), (1, zv (v)), (3, zv (b)), (4, zv (c0)), (5, zv (a))]) [1, 2, 4, 5, 0] rfl ?_
    exact s2 _ (by unfold sb1; first | rw [if_pos ⟨by omega, by rw [← n5]; omega⟩] | rw [if_neg (by rw [← n5]; omega)])
  · have c3 : a < vi ws 0 45 := c3
    refine hr_aln C 0 dX12_stepBy_8 rfl rfl rfl ?_
    refine hr_gA (g := 27) C hr0 TM0 rfl (by decide) fl_X12_95 dX12_stepBy_9 rfl (fun a4 ha5 => ?_)
    refine hr_iln C 2 dX12_stepBy_12 rfl rfl rfl ?_
    refine hr_ald C ha5 TMa_27 (by omega) (by omega) (by decide) dX12_stepBy_13 rfl (fun b6 b7 => ?_)
    have b6 := gp1 b6
    simp only [rg] at b7
    refine hr_iln C 1 dX12_stepBy_14 rfl rfl rfl ?_
    refine hr_cmp C 24 dX12_stepBy_15 (by decide) ⟨by omega, by omega⟩ ⟨by omega, by omega⟩ rfl (fun c8 => ?_) (fun c8 => ?_)
    · have c8 : ¬ vi ws 27 (Int.toNat (a)) = v := c8
      refine hr_iln C 2 dX12_stepBy_24 rfl rfl rfl ?_
      refine hr_is (lv' := [(5, zv (a)), (0, .ref r), (1, zv (v)), (2, zv (a)), (3, zv (b)), (4, zv (c0))]) C dX12_stepBy_25 (by decide) rfl rfl ?_
      refine hr_pick (lv' := [(0, .ref r), (1, zv (v)), (3, zv (b)), (4, zv (c0)), (5, zv (a))]) [1, 2, 4, 5, 0] rfl ?_
      exact s2 _ (by unfold sb1; first | rw [if_pos ⟨by omega, by rw [← n5]; omega⟩] | rw [if_neg (by rw [← n5]; omega)])
    · have c8 : vi ws 27 (Int.toNat (a)) = v := c8
      refine hr_iln C 2 dX12_stepBy_18 rfl rfl rfl ?_
      refine hr_ic C dX12_stepBy_19 rfl ?_
      refine hr_add C dX12_stepBy_20 rfl ?_
      refine hr_goto C 25 dX12_stepBy_21 (by decide) ?_
      refine hr_is (lv' := [(5, zv (a + 1)), (0, .ref r), (1, zv (v)), (2, zv (a)), (3, zv (b)), (4, zv (c0))]) C dX12_stepBy_25 (by decide) rfl rfl ?_
      refine hr_pick (lv' := [(0, .ref r), (1, zv (v)), (3, zv (b)), (4, zv (c0)), (5, zv (a + 1))]) [1, 2, 4, 5, 0] rfl ?_
      exact s2 _ (by unfold sb1; first | rw [if_pos ⟨by omega, by rw [← n5]; omega⟩] | rw [if_neg (by rw [← n5]; omega)])
