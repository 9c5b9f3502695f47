theorem dX12_place_0 : decode cX12_place 0 = .ok (.sipush 169, 3) := by decide +kernel
theorem dX12_place_3 : decode cX12_place 3 = .ok (.iload_n 0, 1) := by decide +kernel
theorem dX12_place_4 : decode cX12_place 4 = .ok (.imul, 1) := by decide +kernel
theorem dX12_place_5 : decode cX12_place 5 = .ok (.bipush 13, 2) := by decide +kernel
theorem dX12_place_7 : decode cX12_place 7 = .ok (.iload_n 1, 1) := by decide +kernel
theorem dX12_place_8 : decode cX12_place 8 = .ok (.imul, 1) := by decide +kernel
theorem dX12_place_9 : decode cX12_place 9 = .ok (.iadd, 1) := by decide +kernel
theorem dX12_place_10 : decode cX12_place 10 = .ok (.iload_n 2, 1) := by decide +kernel
theorem dX12_place_11 : decode cX12_place 11 = .ok (.iadd, 1) := by decide +kernel
theorem dX12_place_12 : decode cX12_place 12 = .ok (.ireturn, 1) := by decide +kernel
theorem dX12_stepBy_54 : decode cX12_stepBy 54 = .ok (.iload 4, 2) := by decide +kernel
theorem dX12_stepBy_56 : decode cX12_stepBy 56 = .ok (.aload_n 0, 1) := by decide +kernel
theorem dX12_stepBy_57 : decode cX12_stepBy 57 = .ok (.getfield 443, 3) := by decide +kernel
theorem dX12_stepBy_60 : decode cX12_stepBy 60 = .ok (.if_icmp .ge 21, 3) := by decide +kernel
theorem dX12_stepBy_81 : decode cX12_stepBy 81 = .ok (.iload 4, 2) := by decide +kernel
theorem dX12_stepBy_83 : decode cX12_stepBy 83 = .ok (.istore 7, 2) := by decide +kernel
theorem dX12_stepBy_85 : decode cX12_stepBy 85 = .ok (.iload 5, 2) := by decide +kernel
theorem dX12_stepBy_87 : decode cX12_stepBy 87 = .ok (.iload 6, 2) := by decide +kernel
theorem dX12_stepBy_89 : decode cX12_stepBy 89 = .ok (.iload 7, 2) := by decide +kernel
theorem dX12_stepBy_91 : decode cX12_stepBy 91 = .ok (.invokestatic 446, 3) := by decide +kernel
theorem dX12_stepBy_94 : decode cX12_stepBy 94 = .ok (.ireturn, 1) := by decide +kernel
theorem dX12_stepBy_63 : decode cX12_stepBy 63 = .ok (.aload_n 0, 1) := by decide +kernel
theorem dX12_stepBy_64 : decode cX12_stepBy 64 = .ok (.getfield 101, 3) := by decide +kernel
theorem dX12_stepBy_67 : decode cX12_stepBy 67 = .ok (.iload 4, 2) := by decide +kernel
theorem dX12_stepBy_69 : decode cX12_stepBy 69 = .ok (.iaload, 1) := by decide +kernel
theorem dX12_stepBy_70 : decode cX12_stepBy 70 = .ok (.iload_n 1, 1) := by decide +kernel
theorem dX12_stepBy_71 : decode cX12_stepBy 71 = .ok (.if_icmp .ne 10, 3) := by decide +kernel
theorem dX12_stepBy_74 : decode cX12_stepBy 74 = .ok (.iload 4, 2) := by decide +kernel
theorem dX12_stepBy_76 : decode cX12_stepBy 76 = .ok (.iconst 1, 1) := by decide +kernel
theorem dX12_stepBy_77 : decode cX12_stepBy 77 = .ok (.iadd, 1) := by decide +kernel
theorem dX12_stepBy_78 : decode cX12_stepBy 78 = .ok (.goto 5, 3) := by decide +kernel
theorem dX12_stepBy_27 : decode cX12_stepBy 27 = .ok (.iload_n 3, 1) := by decide +kernel
theorem dX12_stepBy_28 : decode cX12_stepBy 28 = .ok (.aload_n 0, 1) := by decide +kernel
theorem dX12_stepBy_29 : decode cX12_stepBy 29 = .ok (.getfield 390, 3) := by decide +kernel
theorem dX12_stepBy_32 : decode cX12_stepBy 32 = .ok (.if_icmp .ge 19, 3) := by decide +kernel
theorem dX12_stepBy_51 : decode cX12_stepBy 51 = .ok (.iload_n 3, 1) := by decide +kernel
theorem dX12_stepBy_52 : decode cX12_stepBy 52 = .ok (.istore 6, 2) := by decide +kernel
theorem dX12_stepBy_35 : decode cX12_stepBy 35 = .ok (.aload_n 0, 1) := by decide +kernel
theorem dX12_stepBy_36 : decode cX12_stepBy 36 = .ok (.getfield 98, 3) := by decide +kernel
theorem dX12_stepBy_39 : decode cX12_stepBy 39 = .ok (.iload_n 3, 1) := by decide +kernel
theorem dX12_stepBy_40 : decode cX12_stepBy 40 = .ok (.iaload, 1) := by decide +kernel
theorem dX12_stepBy_41 : decode cX12_stepBy 41 = .ok (.iload_n 1, 1) := by decide +kernel
theorem dX12_stepBy_42 : decode cX12_stepBy 42 = .ok (.if_icmp .ne 9, 3) := by decide +kernel
theorem dX12_stepBy_45 : decode cX12_stepBy 45 = .ok (.iload_n 3, 1) := by decide +kernel
theorem dX12_stepBy_46 : decode cX12_stepBy 46 = .ok (.iconst 1, 1) := by decide +kernel
theorem dX12_stepBy_47 : decode cX12_stepBy 47 = .ok (.iadd, 1) := by decide +kernel
theorem dX12_stepBy_48 : decode cX12_stepBy 48 = .ok (.goto 4, 3) := by decide +kernel
theorem dX12_stepBy_0 : decode cX12_stepBy 0 = .ok (.iload_n 2, 1) := by decide +kernel
theorem dX12_stepBy_1 : decode cX12_stepBy 1 = .ok (.aload_n 0, 1) := by decide +kernel
theorem dX12_stepBy_2 : decode cX12_stepBy 2 = .ok (.getfield 384, 3) := by decide +kernel
theorem dX12_stepBy_5 : decode cX12_stepBy 5 = .ok (.if_icmp .ge 19, 3) := by decide +kernel
theorem dX12_stepBy_24 : decode cX12_stepBy 24 = .ok (.iload_n 2, 1) := by decide +kernel
theorem dX12_stepBy_25 : decode cX12_stepBy 25 = .ok (.istore 5, 2) := by decide +kernel
theorem dX12_stepBy_8 : decode cX12_stepBy 8 = .ok (.aload_n 0, 1) := by decide +kernel
theorem dX12_stepBy_9 : decode cX12_stepBy 9 = .ok (.getfield 95, 3) := by decide +kernel
theorem dX12_stepBy_12 : decode cX12_stepBy 12 = .ok (.iload_n 2, 1) := by decide +kernel
theorem dX12_stepBy_13 : decode cX12_stepBy 13 = .ok (.iaload, 1) := by decide +kernel
theorem dX12_stepBy_14 : decode cX12_stepBy 14 = .ok (.iload_n 1, 1) := by decide +kernel
theorem dX12_stepBy_15 : decode cX12_stepBy 15 = .ok (.if_icmp .ne 9, 3) := by decide +kernel
theorem dX12_stepBy_18 : decode cX12_stepBy 18 = .ok (.iload_n 2, 1) := by decide +kernel
theorem dX12_stepBy_19 : decode cX12_stepBy 19 = .ok (.iconst 1, 1) := by decide +kernel
theorem dX12_stepBy_20 : decode cX12_stepBy 20 = .ok (.iadd, 1) := by decide +kernel
theorem dX12_stepBy_21 : decode cX12_stepBy 21 = .ok (.goto 4, 3) := by decide +kernel
theorem dX12_layNeed_78 : decode cX12_layNeed 78 = .ok (.iload 6, 2) := by decide +kernel
theorem dX12_layNeed_80 : decode cX12_layNeed 80 = .ok (.aload_n 0, 1) := by decide +kernel
theorem dX12_layNeed_81 : decode cX12_layNeed 81 = .ok (.getfield 20, 3) := by decide +kernel
theorem dX12_layNeed_84 : decode cX12_layNeed 84 = .ok (.aload_n 0, 1) := by decide +kernel
theorem dX12_layNeed_85 : decode cX12_layNeed 85 = .ok (.getfield 274, 3) := by decide +kernel
theorem dX12_layNeed_88 : decode cX12_layNeed 88 = .ok (.iaload, 1) := by decide +kernel
theorem dX12_layNeed_89 : decode cX12_layNeed 89 = .ok (.if_icmp .ge 116, 3) := by decide +kernel
theorem dX12_layNeed_205 : decode cX12_layNeed 205 = .ok (.return_, 1) := by decide +kernel
theorem dX12_layNeed_92 : decode cX12_layNeed 92 = .ok (.iload 5, 2) := by decide +kernel
theorem dX12_layNeed_94 : decode cX12_layNeed 94 = .ok (.ifCond .ne 111, 3) := by decide +kernel
theorem dX12_layNeed_97 : decode cX12_layNeed 97 = .ok (.aload_n 0, 1) := by decide +kernel
theorem dX12_layNeed_98 : decode cX12_layNeed 98 = .ok (.iload 6, 2) := by decide +kernel
theorem dX12_layNeed_100 : decode cX12_layNeed 100 = .ok (.iload_n 1, 1) := by decide +kernel
theorem dX12_layNeed_101 : decode cX12_layNeed 101 = .ok (.iload_n 2, 1) := by decide +kernel
theorem dX12_layNeed_102 : decode cX12_layNeed 102 = .ok (.iload_n 3, 1) := by decide +kernel
theorem dX12_layNeed_103 : decode cX12_layNeed 103 = .ok (.invokevirtual 449, 3) := by decide +kernel
theorem dX12_layNeed_106 : decode cX12_layNeed 106 = .ok (.istore 7, 2) := by decide +kernel
theorem dX12_layNeed_108 : decode cX12_layNeed 108 = .ok (.iload 7, 2) := by decide +kernel
theorem dX12_layNeed_110 : decode cX12_layNeed 110 = .ok (.iload 4, 2) := by decide +kernel
theorem dX12_layNeed_112 : decode cX12_layNeed 112 = .ok (.if_icmp .ne 6, 3) := by decide +kernel
theorem dX12_layNeed_118 : decode cX12_layNeed 118 = .ok (.aload_n 0, 1) := by decide +kernel
theorem dX12_layNeed_119 : decode cX12_layNeed 119 = .ok (.getfield 110, 3) := by decide +kernel
theorem dX12_layNeed_122 : decode cX12_layNeed 122 = .ok (.iload 7, 2) := by decide +kernel
theorem dX12_layNeed_124 : decode cX12_layNeed 124 = .ok (.iaload, 1) := by decide +kernel
theorem dX12_layNeed_125 : decode cX12_layNeed 125 = .ok (.iconst 1, 1) := by decide +kernel
theorem dX12_layNeed_126 : decode cX12_layNeed 126 = .ok (.iadd, 1) := by decide +kernel
theorem dX12_layNeed_127 : decode cX12_layNeed 127 = .ok (.istore 8, 2) := by decide +kernel
theorem dX12_layNeed_129 : decode cX12_layNeed 129 = .ok (.iload 8, 2) := by decide +kernel
theorem dX12_layNeed_131 : decode cX12_layNeed 131 = .ok (.aload_n 0, 1) := by decide +kernel
theorem dX12_layNeed_132 : decode cX12_layNeed 132 = .ok (.getfield 110, 3) := by decide +kernel
theorem dX12_layNeed_135 : decode cX12_layNeed 135 = .ok (.iload 4, 2) := by decide +kernel
theorem dX12_layNeed_137 : decode cX12_layNeed 137 = .ok (.iaload, 1) := by decide +kernel
theorem dX12_layNeed_138 : decode cX12_layNeed 138 = .ok (.if_icmp .ge 11, 3) := by decide +kernel
theorem dX12_layNeed_149 : decode cX12_layNeed 149 = .ok (.iload 8, 2) := by decide +kernel
theorem dX12_layNeed_151 : decode cX12_layNeed 151 = .ok (.aload_n 0, 1) := by decide +kernel
theorem dX12_layNeed_152 : decode cX12_layNeed 152 = .ok (.getfield 110, 3) := by decide +kernel
theorem dX12_layNeed_155 : decode cX12_layNeed 155 = .ok (.iload 4, 2) := by decide +kernel
theorem dX12_layNeed_157 : decode cX12_layNeed 157 = .ok (.iaload, 1) := by decide +kernel
theorem dX12_layNeed_158 : decode cX12_layNeed 158 = .ok (.if_icmp .ge 12, 3) := by decide +kernel
theorem dX12_layNeed_170 : decode cX12_layNeed 170 = .ok (.iload 8, 2) := by decide +kernel
theorem dX12_layNeed_172 : decode cX12_layNeed 172 = .ok (.aload_n 0, 1) := by decide +kernel
theorem dX12_layNeed_173 : decode cX12_layNeed 173 = .ok (.getfield 110, 3) := by decide +kernel
theorem dX12_layNeed_176 : decode cX12_layNeed 176 = .ok (.iload 4, 2) := by decide +kernel
theorem dX12_layNeed_178 : decode cX12_layNeed 178 = .ok (.iaload, 1) := by decide +kernel
theorem dX12_layNeed_179 : decode cX12_layNeed 179 = .ok (.if_icmp .ne 20, 3) := by decide +kernel
theorem dX12_layNeed_199 : decode cX12_layNeed 199 = .ok (.iinc 6 1, 3) := by decide +kernel
theorem dX12_layNeed_202 : decode cX12_layNeed 202 = .ok (.goto (-124), 3) := by decide +kernel
theorem dX12_layNeed_182 : decode cX12_layNeed 182 = .ok (.aload_n 0, 1) := by decide +kernel
theorem dX12_layNeed_183 : decode cX12_layNeed 183 = .ok (.getfield 113, 3) := by decide +kernel
theorem dX12_layNeed_186 : decode cX12_layNeed 186 = .ok (.iload 4, 2) := by decide +kernel
theorem dX12_layNeed_188 : decode cX12_layNeed 188 = .ok (.dup2, 1) := by decide +kernel
theorem dX12_layNeed_189 : decode cX12_layNeed 189 = .ok (.iaload, 1) := by decide +kernel
theorem dX12_layNeed_190 : decode cX12_layNeed 190 = .ok (.aload_n 0, 1) := by decide +kernel
theorem dX12_layNeed_191 : decode cX12_layNeed 191 = .ok (.getfield 113, 3) := by decide +kernel
theorem dX12_layNeed_194 : decode cX12_layNeed 194 = .ok (.iload 7, 2) := by decide +kernel
theorem dX12_layNeed_196 : decode cX12_layNeed 196 = .ok (.iaload, 1) := by decide +kernel
theorem dX12_layNeed_197 : decode cX12_layNeed 197 = .ok (.iadd, 1) := by decide +kernel
theorem dX12_layNeed_198 : decode cX12_layNeed 198 = .ok (.iastore, 1) := by decide +kernel
theorem dX12_layNeed_161 : decode cX12_layNeed 161 = .ok (.aload_n 0, 1) := by decide +kernel
theorem dX12_layNeed_162 : decode cX12_layNeed 162 = .ok (.getfield 110, 3) := by decide +kernel
theorem dX12_layNeed_165 : decode cX12_layNeed 165 = .ok (.iload 4, 2) := by decide +kernel
theorem dX12_layNeed_167 : decode cX12_layNeed 167 = .ok (.iload 8, 2) := by decide +kernel
theorem dX12_layNeed_169 : decode cX12_layNeed 169 = .ok (.iastore, 1) := by decide +kernel
theorem dX12_layNeed_141 : decode cX12_layNeed 141 = .ok (.aload_n 0, 1) := by decide +kernel
theorem dX12_layNeed_142 : decode cX12_layNeed 142 = .ok (.getfield 113, 3) := by decide +kernel
theorem dX12_layNeed_145 : decode cX12_layNeed 145 = .ok (.iload 4, 2) := by decide +kernel
theorem dX12_layNeed_147 : decode cX12_layNeed 147 = .ok (.iconst 0, 1) := by decide +kernel
theorem dX12_layNeed_148 : decode cX12_layNeed 148 = .ok (.iastore, 1) := by decide +kernel
theorem dX12_layNeed_115 : decode cX12_layNeed 115 = .ok (.goto 84, 3) := by decide +kernel
theorem dX12_layNeed_0 : decode cX12_layNeed 0 = .ok (.iload_n 1, 1) := by decide +kernel
theorem dX12_layNeed_1 : decode cX12_layNeed 1 = .ok (.iload_n 2, 1) := by decide +kernel
theorem dX12_layNeed_2 : decode cX12_layNeed 2 = .ok (.iload_n 3, 1) := by decide +kernel
theorem dX12_layNeed_3 : decode cX12_layNeed 3 = .ok (.invokestatic 446, 3) := by decide +kernel
theorem dX12_layNeed_6 : decode cX12_layNeed 6 = .ok (.istore 4, 2) := by decide +kernel
theorem dX12_layNeed_8 : decode cX12_layNeed 8 = .ok (.iload_n 1, 1) := by decide +kernel
theorem dX12_layNeed_9 : decode cX12_layNeed 9 = .ok (.aload_n 0, 1) := by decide +kernel
theorem dX12_layNeed_10 : decode cX12_layNeed 10 = .ok (.getfield 384, 3) := by decide +kernel
theorem dX12_layNeed_13 : decode cX12_layNeed 13 = .ok (.if_icmp .ne 23, 3) := by decide +kernel
theorem dX12_layNeed_36 : decode cX12_layNeed 36 = .ok (.iconst 0, 1) := by decide +kernel
theorem dX12_layNeed_37 : decode cX12_layNeed 37 = .ok (.istore 5, 2) := by decide +kernel
theorem dX12_layNeed_39 : decode cX12_layNeed 39 = .ok (.aload_n 0, 1) := by decide +kernel
theorem dX12_layNeed_40 : decode cX12_layNeed 40 = .ok (.getfield 110, 3) := by decide +kernel
theorem dX12_layNeed_43 : decode cX12_layNeed 43 = .ok (.iload 4, 2) := by decide +kernel
theorem dX12_layNeed_45 : decode cX12_layNeed 45 = .ok (.iload 5, 2) := by decide +kernel
theorem dX12_layNeed_47 : decode cX12_layNeed 47 = .ok (.ifCond .eq 7, 3) := by decide +kernel
theorem dX12_layNeed_54 : decode cX12_layNeed 54 = .ok (.sipush 1000, 3) := by decide +kernel
theorem dX12_layNeed_57 : decode cX12_layNeed 57 = .ok (.iastore, 1) := by decide +kernel
theorem dX12_layNeed_58 : decode cX12_layNeed 58 = .ok (.aload_n 0, 1) := by decide +kernel
theorem dX12_layNeed_59 : decode cX12_layNeed 59 = .ok (.getfield 113, 3) := by decide +kernel
theorem dX12_layNeed_62 : decode cX12_layNeed 62 = .ok (.iload 4, 2) := by decide +kernel
theorem dX12_layNeed_64 : decode cX12_layNeed 64 = .ok (.iload 5, 2) := by decide +kernel
theorem dX12_layNeed_66 : decode cX12_layNeed 66 = .ok (.ifCond .eq 7, 3) := by decide +kernel
theorem dX12_layNeed_73 : decode cX12_layNeed 73 = .ok (.iconst 0, 1) := by decide +kernel
theorem dX12_layNeed_74 : decode cX12_layNeed 74 = .ok (.iastore, 1) := by decide +kernel
theorem dX12_layNeed_75 : decode cX12_layNeed 75 = .ok (.iconst 0, 1) := by decide +kernel
theorem dX12_layNeed_76 : decode cX12_layNeed 76 = .ok (.istore 6, 2) := by decide +kernel
theorem dX12_layNeed_16 : decode cX12_layNeed 16 = .ok (.iload_n 2, 1) := by decide +kernel
theorem dX12_layNeed_17 : decode cX12_layNeed 17 = .ok (.aload_n 0, 1) := by decide +kernel
theorem dX12_layNeed_18 : decode cX12_layNeed 18 = .ok (.getfield 390, 3) := by decide +kernel
theorem dX12_layNeed_21 : decode cX12_layNeed 21 = .ok (.if_icmp .ne 15, 3) := by decide +kernel
theorem dX12_layNeed_24 : decode cX12_layNeed 24 = .ok (.iload_n 3, 1) := by decide +kernel
theorem dX12_layNeed_25 : decode cX12_layNeed 25 = .ok (.aload_n 0, 1) := by decide +kernel
theorem dX12_layNeed_26 : decode cX12_layNeed 26 = .ok (.getfield 443, 3) := by decide +kernel
theorem dX12_layNeed_29 : decode cX12_layNeed 29 = .ok (.if_icmp .ne 7, 3) := by decide +kernel
theorem dX12_layNeed_32 : decode cX12_layNeed 32 = .ok (.iconst 1, 1) := by decide +kernel
theorem dX12_layNeed_33 : decode cX12_layNeed 33 = .ok (.goto 4, 3) := by decide +kernel
theorem dX12_layNeed_50 : decode cX12_layNeed 50 = .ok (.iconst 0, 1) := by decide +kernel
theorem dX12_layNeed_51 : decode cX12_layNeed 51 = .ok (.goto 6, 3) := by decide +kernel
theorem dX12_layNeed_69 : decode cX12_layNeed 69 = .ok (.iconst 1, 1) := by decide +kernel
theorem dX12_layNeed_70 : decode cX12_layNeed 70 = .ok (.goto 4, 3) := by decide +kernel
-- shortest rows: pure
def plc (a b c : Int) : Int := 169 * a + 13 * b + c
def sb1 (L : Int) (o : Nat → Int) (v a : Int) : Int := if a < L ∧ o a.toNat = v then a + 1 else a
def EN (ws : va_W) (L1 L2 L3 W : Int) (o t h : Nat → Int) : Prop := vi ws 0 45 = L1 ∧ vi ws 0 46 = L2 ∧ vi ws 0 47 = L3 ∧ vi ws 3 (Int.toNat (vi ws 0 34)) = W ∧ (∀ j, vi ws 27 j = o j) ∧ (∀ j, vi ws 28 j = t j) ∧ ∀ j, vi ws 29 j = h j
def sbp (L1 L2 L3 : Int) (o t h : Nat → Int) (v a b c : Int) : Int := plc (sb1 L1 o v a) (sb1 L2 t v b) (sb1 L3 h v c)
def PLs (L1 L2 L3 W : Int) (o t h : Nat → Int) (N : Nat → Int) (a b c : Int) : Prop := 0 ≤ N (plc a b c).toNat ∧ N (plc a b c).toNat ≤ (L1 - a) + (L2 - b) + (L3 - c) ∧ (0 < N (plc a b c).toNat → ∃ v, 0 ≤ v ∧ v < W ∧ ¬ sbp L1 L2 L3 o t h v a b c = plc a b c ∧ N (sbp L1 L2 L3 o t h v a b c).toNat = N (plc a b c).toNat - 1)
def rgT (L1 L2 L3 a b c : Int) : Prop := 0 ≤ a ∧ a ≤ L1 ∧ 0 ≤ b ∧ b ≤ L2 ∧ 0 ≤ c ∧ c ≤ L3
def AL (L1 L2 L3 W : Int) (o t h : Nat → Int) (N : Nat → Int) (p : Int) : Prop := ∀ a b c, rgT L1 L2 L3 a b c → p < plc a b c → PLs L1 L2 L3 W o t h N a b c
def OWs (L W : Int) (o : Nat → Int) : Prop := ∀ j : Nat, (j : Int) < L → 0 ≤ o j ∧ o j < W
theorem sb1_c (L : Int) (o : Nat → Int) (v a : Int) : (sb1 L o v a = a ∧ ¬ (a < L ∧ o a.toNat = v)) ∨ (sb1 L o v a = a + 1 ∧ a < L ∧ o a.toNat = v) := by
  unfold sb1
  split
  · rename_i h; exact Or.inr ⟨rfl, h⟩
  · rename_i h; exact Or.inl ⟨rfl, h⟩
theorem en_sm {cy : Nat → ClassId} {ad : List Nat} {md : List (Nat × Nat)} {w w' : va_W} {L1 L2 L3 W : Int} {o t h : Nat → Int} (hw : fx_wo (gsM, TM, cy, fun _ => True) ad w) (hw' : fx_wo (gsM, TM, cy, fun _ => True) ad w') (hs : fx_sm (gsM, TM, cy, fun _ => True) md w w') (hm : (12, 45) ∉ md ∧ (12, 46) ∉ md ∧ (12, 47) ∉ md ∧ (12, 34) ∉ md ∧ (1000, 3) ∉ md ∧ (1000, 27) ∉ md ∧ (1000, 28) ∉ md ∧ (1000, 29) ∉ md) (hE : EN w L1 L2 L3 W o t h) : EN w' L1 L2 L3 W o t h := by
  obtain ⟨h1, h2, h3, h4, h5, h6, h7⟩ := hE
  obtain ⟨m1, m2, m3, m4, m5, m6, m7, m8⟩ := hm
  refine ⟨?_, ?_, ?_, ?_, fun j => ?_, fun j => ?_, fun j => ?_⟩
  · rw [sm_f hw hw' hs m1]; exact h1
  · rw [sm_f hw hw' hs m2]; exact h2
  · rw [sm_f hw hw' hs m3]; exact h3
  · rw [sm_f hw hw' hs m4, sm_a hw hw' hs TMa_3 m5]; exact h4
  · rw [sm_a hw hw' hs TMa_27 m6]; exact h5 j
  · rw [sm_a hw hw' hs TMa_28 m7]; exact h6 j
  · rw [sm_a hw hw' hs TMa_29 m8]; exact h7 j
/-- one more word looked at: the least so far -/
def LN (L1 L2 L3 : Int) (o t h : Nat → Int) (N : Nat → Int) (a b c v : Int) : Prop := 0 ≤ N (plc a b c).toNat ∧ (N (plc a b c).toNat = 1000 ∨ ∃ v0, 0 ≤ v0 ∧ v0 < v ∧ ¬ sbp L1 L2 L3 o t h v0 a b c = plc a b c ∧ N (sbp L1 L2 L3 o t h v0 a b c).toNat + 1 = N (plc a b c).toNat) ∧ ∀ v0, 0 ≤ v0 → v0 < v → ¬ sbp L1 L2 L3 o t h v0 a b c = plc a b c → N (plc a b c).toNat ≤ N (sbp L1 L2 L3 o t h v0 a b c).toNat + 1
theorem sbp_rg {L1 L2 L3 : Int} {o t h : Nat → Int} {v a b c : Int} (hr : rgT L1 L2 L3 a b c) : ∃ x y z, sbp L1 L2 L3 o t h v a b c = plc x y z ∧ rgT L1 L2 L3 x y z ∧ a ≤ x ∧ b ≤ y ∧ c ≤ z ∧ x ≤ a + 1 ∧ y ≤ b + 1 ∧ z ≤ c + 1 := by
  obtain ⟨r1, r2, r3, r4, r5, r6⟩ := hr
  refine ⟨_, _, _, rfl, ?_⟩
  rcases sb1_c L1 o v a with ⟨e1, q1⟩ | ⟨e1, q1, _⟩ <;> rcases sb1_c L2 t v b with ⟨e2, q2⟩ | ⟨e2, q2, _⟩ <;> rcases sb1_c L3 h v c with ⟨e3, q3⟩ | ⟨e3, q3, _⟩ <;> rw [e1, e2, e3] <;> unfold rgT <;> omega
theorem LN_end {L1 L2 L3 W : Int} {o t h : Nat → Int} {N : Nat → Int} {a b c : Int} (hL : L1 ≤ 12 ∧ L2 ≤ 12 ∧ L3 ≤ 12) (hr : rgT L1 L2 L3 a b c) (ho : OWs L1 W o) (ht : OWs L2 W t) (hh : OWs L3 W h) (hd : ¬ (a = L1 ∧ b = L2 ∧ c = L3)) (hA : AL L1 L2 L3 W o t h N (plc a b c)) (hN : LN L1 L2 L3 o t h N a b c W) : PLs L1 L2 L3 W o t h N a b c := by
  have hr' := hr
  obtain ⟨r1, r2, r3, r4, r5, r6⟩ := hr'
  -- a word that goes on
  have hv : ∃ v, 0 ≤ v ∧ v < W ∧ (sb1 L1 o v a = a + 1 ∨ sb1 L2 t v b = b + 1 ∨ sb1 L3 h v c = c + 1) := by
    by_cases q1 : a < L1
    · have := ho a.toNat (by omega)
      exact ⟨_, this.1, this.2, Or.inl (by unfold sb1; rw [if_pos ⟨q1, rfl⟩])⟩
    · by_cases q2 : b < L2
      · have := ht b.toNat (by omega)
        exact ⟨_, this.1, this.2, Or.inr (Or.inl (by unfold sb1; rw [if_pos ⟨q2, rfl⟩]))⟩
      · have := hh c.toNat (by omega)
        exact ⟨_, this.1, this.2, Or.inr (Or.inr (by unfold sb1; rw [if_pos ⟨by omega, rfl⟩]))⟩
  obtain ⟨n1, n2, n3⟩ := hN
  obtain ⟨v, v1, v2, v3⟩ := hv
  obtain ⟨x, y, z, e, hx, x1, x2, x3, x4, x5, x6⟩ := sbp_rg (o := o) (t := t) (h := h) (v := v) hr
  have e2 : sbp L1 L2 L3 o t h v a b c = plc (sb1 L1 o v a) (sb1 L2 t v b) (sb1 L3 h v c) := rfl
  obtain ⟨y1, y2, y3, y4, y5, y6⟩ := hx
  have hgt : plc a b c < plc x y z := by
    rw [← e, e2]
    rcases sb1_c L1 o v a with ⟨e1, q1⟩ | ⟨e1, q1, _⟩ <;> rcases sb1_c L2 t v b with ⟨e2', q2⟩ | ⟨e2', q2, _⟩ <;> rcases sb1_c L3 h v c with ⟨e3, q3⟩ | ⟨e3, q3, _⟩ <;> rw [e1, e2', e3] <;> unfold plc <;> omega
  have hsum : a + b + c + 1 ≤ x + y + z := by
    have : plc x y z = plc (sb1 L1 o v a) (sb1 L2 t v b) (sb1 L3 h v c) := by rw [← e, e2]
    unfold plc at this hgt
    omega
  obtain ⟨p1, p2, -⟩ := hA x y z ⟨y1, y2, y3, y4, y5, y6⟩ hgt
  have n4 := n3 v v1 v2 (by rw [e]; omega)
  rw [e] at n4
  refine ⟨n1, by omega, fun hpos => ?_⟩
  rcases n2 with n2 | ⟨v0, w1, w2, w3, w4⟩
  · omega
  · exact ⟨v0, w1, w2, w3, by omega⟩
theorem plc_sbp {L1 L2 L3 : Int} {o t h : Nat → Int} {v a b c : Int} (hr : rgT L1 L2 L3 a b c) : plc a b c ≤ sbp L1 L2 L3 o t h v a b c ∧ 0 ≤ plc a b c := by
  obtain ⟨x, y, z, e, hx, x1, x2, x3, -⟩ := sbp_rg (o := o) (t := t) (h := h) (v := v) hr
  obtain ⟨r1, r2, r3, r4, r5, r6⟩ := hr
  rw [e]
  unfold plc
  omega
theorem PLs_keep {L1 L2 L3 W : Int} {o t h : Nat → Int} {N N' : Nat → Int} {P a b c : Int} (hT : rgT L1 L2 L3 a b c) (hP : P < plc a b c) (hk : ∀ x : Nat, (x : Int) ≠ P → N' x = N x) (h0 : PLs L1 L2 L3 W o t h N a b c) : PLs L1 L2 L3 W o t h N' a b c := by
  have q0 := plc_sbp (o := o) (t := t) (h := h) (v := 0) hT
  have e1 : N' (plc a b c).toNat = N (plc a b c).toNat := hk _ (by omega)
  obtain ⟨p1, p2, p3⟩ := h0
  refine ⟨by rw [e1]; exact p1, by rw [e1]; exact p2, fun hp => ?_⟩
  rw [e1] at hp
  obtain ⟨v, v1, v2, v3, v4⟩ := p3 hp
  have q1 := plc_sbp (o := o) (t := t) (h := h) (v := v) hT
  refine ⟨v, v1, v2, v3, ?_⟩
  rw [e1, hk _ (by omega)]
  exact v4
theorem AL_keep {L1 L2 L3 W : Int} {o t h : Nat → Int} {N N' : Nat → Int} {P : Int} (hk : ∀ x : Nat, (x : Int) ≠ P → N' x = N x) (hal : AL L1 L2 L3 W o t h N P) : AL L1 L2 L3 W o t h N' P := fun a b c hT hlt => PLs_keep hT hlt hk (hal a b c hT hlt)
theorem AL_next {L1 L2 L3 W : Int} {o t h : Nat → Int} {N N' : Nat → Int} {P a b c : Int} (hP : P = plc a b c) (hL : L1 ≤ 12 ∧ L2 ≤ 12 ∧ L3 ≤ 12) (hT : rgT L1 L2 L3 a b c) (hk : ∀ x : Nat, (x : Int) ≠ P → N' x = N x) (hal : AL L1 L2 L3 W o t h N P) (hp : PLs L1 L2 L3 W o t h N' a b c) : AL L1 L2 L3 W o t h N' (P - 1) := by
  intro a' b' c' hT' hlt
  by_cases hgt : P < plc a' b' c'
  · exact PLs_keep hT' hgt hk (hal a' b' c' hT' hgt)
  · have e : plc a' b' c' = plc a b c := by omega
    obtain ⟨r1, r2, r3, r4, r5, r6⟩ := hT
    obtain ⟨s1, s2, s3, s4, s5, s6⟩ := hT'
    unfold plc at e
    have e1 : a' = a := by omega
    have e2 : b' = b := by omega
    have e3 : c' = c := by omega
    rw [e1, e2, e3]
    exact hp
theorem LN_0 {L1 L2 L3 : Int} {o t h : Nat → Int} {N : Nat → Int} {P a b c : Int} (hP : P = plc a b c) (hN : N P.toNat = 1000) : LN L1 L2 L3 o t h N a b c 0 := by
  rw [hP] at hN
  exact ⟨by omega, Or.inl hN, fun v0 h1 h2 => by omega⟩
theorem LN_skip {L1 L2 L3 : Int} {o t h : Nat → Int} {N : Nat → Int} {a b c v : Int} (hX : sbp L1 L2 L3 o t h v a b c = plc a b c) (hl : LN L1 L2 L3 o t h N a b c v) : LN L1 L2 L3 o t h N a b c (v + 1) := by
  obtain ⟨h1, h2, h3⟩ := hl
  refine ⟨h1, ?_, fun v0 g1 g2 g3 => ?_⟩
  · rcases h2 with h2 | ⟨v0, q1, q2, q3⟩
    · exact Or.inl h2
    · exact Or.inr ⟨v0, q1, by omega, q3⟩
  · by_cases e : v0 = v
    · subst e; exact absurd hX g3
    · exact h3 v0 g1 (by omega) g3
theorem LN_take {L1 L2 L3 : Int} {o t h : Nat → Int} {N N' : Nat → Int} {P X a b c v : Int} (hT : rgT L1 L2 L3 a b c) (hP : P = plc a b c) (hX : X = sbp L1 L2 L3 o t h v a b c) (hv : 0 ≤ v) (hXP : ¬ X = P) (h0 : 0 ≤ N X.toNat) (hk : ∀ x : Nat, (x : Int) ≠ P → N' x = N x) (hc : (N' P.toNat = N X.toNat + 1 ∧ N X.toNat + 1 < N P.toNat) ∨ (N' P.toNat = N P.toNat ∧ N P.toNat ≤ N X.toNat + 1)) (hl : LN L1 L2 L3 o t h N a b c v) : LN L1 L2 L3 o t h N' a b c (v + 1) := by
  subst hP
  obtain ⟨h1, h2, h3⟩ := hl
  have ks : ∀ u, ¬ sbp L1 L2 L3 o t h u a b c = plc a b c → N' (sbp L1 L2 L3 o t h u a b c).toNat = N (sbp L1 L2 L3 o t h u a b c).toNat := fun u hu => hk _ (by have := plc_sbp (o := o) (t := t) (h := h) (v := u) hT; omega)
  have hX1 : ¬ sbp L1 L2 L3 o t h v a b c = plc a b c := by rw [← hX]; exact hXP
  have kx := ks v hX1
  rw [← hX] at kx
  refine ⟨by clear h2 h3; rcases hc with ⟨c1, _⟩ | ⟨c1, _⟩ <;> omega, ?_, fun v0 g1 g2 g3 => ?_⟩
  · rcases hc with ⟨c1, c2⟩ | ⟨c1, c2⟩
    · exact Or.inr ⟨v, hv, by omega, hX1, by rw [← hX, kx, c1]⟩
    · rcases h2 with h2 | ⟨v0, q1, q2, q3, q4⟩
      · exact Or.inl (by rw [c1]; exact h2)
      · exact Or.inr ⟨v0, q1, by omega, q3, by rw [ks v0 q3, c1]; exact q4⟩
  · rw [ks v0 g3]
    by_cases e : v0 = v
    · subst e
      rw [← hX]
      clear h2 h3
      rcases hc with ⟨c1, c2⟩ | ⟨c1, c2⟩ <;> omega
    · have := h3 v0 g1 (by omega) g3
      clear h2 h3
      rcases hc with ⟨c1, c2⟩ | ⟨c1, c2⟩ <;> omega

set_option maxRecDepth 100000 in
set_option maxHeartbeats 4000000 in
theorem h_place {l : Launch} {E : (Nat → Prop) → State → Prop} {ad : List Nat} {D : va_G} {cy : Nat → ClassId} (h : fx_env E D classes (tys cy) nestW) (x y z : Int) : hM l yX12_place cX12_place 3 (some .int) ({ frames := 0, cells := 0, slots := 0, locals := 0 }) E ad D cy (fun av ws => av = [zv x, zv y, zv z] ∧ True) (fun _ ws rv ws1 => ws = ws1 ∧ rv = some (zv (plc x y z))) := by
  refine hM_of h (by decide) ?_
  intro av ws p e s m below meth c hwo hnd hpre hlocks hr C
  obtain ⟨rfl, hpre⟩ := hpre
  refine ⟨Nat.le_of_ble_eq_true rfl, ?_⟩
  refine hr_pick (lv' := [(0, zv x), (1, zv y), (2, zv z)]) [0, 1, 2] rfl ?_
  refine hr_si C dX12_place_0 (by decide +kernel) rfl ?_
  refine hr_iln C 0 dX12_place_3 rfl rfl rfl ?_
  refine hr_mul C dX12_place_4 rfl ?_
  refine hr_bi C dX12_place_5 (by decide +kernel) rfl ?_
  refine hr_iln C 1 dX12_place_7 rfl rfl rfl ?_
  refine hr_mul C dX12_place_8 rfl ?_
  refine hr_add C dX12_place_9 rfl ?_
  refine hr_iln C 2 dX12_place_10 rfl rfl rfl ?_
  refine hr_add C dX12_place_11 rfl ?_
  exact hr_iret C hlocks hr dX12_place_12 ⟨rfl, rfl⟩
set_option maxRecDepth 100000 in
set_option maxHeartbeats 4000000 in
theorem h_stepBy {l : Launch} {E : (Nat → Prop) → State → Prop} {ad : List Nat} {D : va_G} {cy : Nat → ClassId} (h : fx_env E D classes (tys cy) nestW) (r : Nat) (v a b c0 : Int) (L1 L2 L3 W : Int) (o t h0 : Nat → Int) (hr0 : ad[0]? = some r) (hv : rg v) (ha : 0 ≤ a ∧ a ≤ 12) (hb : 0 ≤ b ∧ b ≤ 12) (hc : 0 ≤ c0 ∧ c0 ≤ 12) : hM l yX12_stepBy cX12_stepBy 8 (some .int) ({ frames := 1, cells := 0, slots := 0, locals := 22 }) E ad D cy (fun av ws => av = [.ref r, zv v, zv a, zv b, zv c0] ∧ EN ws L1 L2 L3 W o t h0) (fun _ ws rv ws1 => ws = ws1 ∧ rv = some (zv (sbp L1 L2 L3 o t h0 v a b c0))) := by
  refine hM_of h (by decide) ?_
  intro av ws p e s m below meth c hwo hnd hpre hlocks hr C
  obtain ⟨rfl, hpre⟩ := hpre
  refine ⟨Nat.le_of_ble_eq_true rfl, ?_⟩
  obtain ⟨n1, n2, n3, n4, n5, n6, n7⟩ := hpre
  simp only [rg] at hv
  refine hr_pick (lv' := [(0, .ref r), (1, zv v), (2, zv a), (3, zv b), (4, zv c0)]) [0, 1, 2, 3, 4] rfl ?_
  have s3 : ∀ x y : Int, x = sb1 L1 o v a → y = sb1 L2 t v b → HW l E ad D cy (va_A ws s.heap.size) s.heap p e ({ frames := 1, cells := 0, slots := 0, locals := 22 }) s m ([.ref r, zv v, zv a, zv b, zv c0]).toArray below meth c (MQ below (hQ ad D cy (fun _ ws rv ws1 => ws = ws1 ∧ rv = some (zv (sbp L1 L2 L3 o t h0 v a b c0))) ([.ref r, zv v, zv a, zv b, zv c0]) ws s.heap.size) ([.ref r, zv v, zv a, zv b, zv c0]).toArray s 0 0 (va_A ws s.heap.size)) cX12_stepBy 8 yX12_stepBy.cls 54 [(0, .ref r), (1, zv v), (4, zv c0), (5, zv x), (6, zv y)] [] ws := by
    intro x y hx hy
    refine hr_il C 2 dX12_stepBy_54 rfl rfl ?_
    refine hr_aln C 0 dX12_stepBy_56 rfl rfl rfl ?_
    refine hr_gI (lo := 0) (hi := 12) C hr0 TM0 rfl fl_X12_443 dX12_stepBy_57 rfl (fun b1 b2 => ?_)
    refine hr_cmp C 81 dX12_stepBy_60 (by decide) ⟨by omega, by omega⟩ ⟨by omega, by omega⟩ rfl (fun c3 => ?_) (fun c3 => ?_)
    · have c3 : (vi ws 0 47 : Int) ≤ c0 := c3
      refine hr_il C 2 dX12_stepBy_81 rfl rfl ?_
      refine hr_is (lv' := [(7, zv (c0)), (0, .ref r), (1, zv (v)), (4, zv (c0)), (5, zv (x)), (6, zv (y))]) C dX12_stepBy_83 (by decide) rfl rfl ?_
      have hz : c0 = sb1 L3 h0 v c0 := (by unfold sb1; first | rw [if_pos ⟨by omega, by rw [← n7]; omega⟩] | rw [if_neg (by rw [← n7]; omega)])
      refine hr_il C 4 dX12_stepBy_85 rfl rfl ?_
      refine hr_il C 5 dX12_stepBy_87 rfl rfl ?_
      refine hr_il C 0 dX12_stepBy_89 rfl rfl ?_
      refine hr_cS (As := [zv (x), zv (y), zv (c0)]) (rest := []) C (h_place h (x) (y) (c0)) ⟨by decide, by decide⟩ iS_X12_place g_X12_446 dX12_stepBy_91 rfl rfl (Nat.le_of_ble_eq_true rfl) rfl ⟨rfl, trivial⟩ (fun w4 rv o5 q6 => ?_)
      obtain ⟨rfl, rfl⟩ := q6
      refine hr_norm (st' := [zv (plc (x) (y) (c0))]) rfl ?_
      exact hr_iret C hlocks hr dX12_stepBy_94 ⟨rfl, by rw [hx, hy]; unfold sbp; rw [← hz]⟩
    · have c3 : (c0 : Int) < vi ws 0 47 := c3
      refine hr_aln C 0 dX12_stepBy_63 rfl rfl rfl ?_
      refine hr_gA (g := 29) C hr0 TM0 rfl (by decide) fl_X12_101 dX12_stepBy_64 rfl (fun a7 ha8 => ?_)
      refine hr_il C 2 dX12_stepBy_67 rfl rfl ?_
      refine hr_ald C ha8 TMa_29 (by omega) (by omega) (by decide) dX12_stepBy_69 rfl (fun b9 b10 => ?_)
      have b9 := gp1 b9
      simp only [rg] at b10
      refine hr_iln C 1 dX12_stepBy_70 rfl rfl rfl ?_
      refine hr_cmp C 81 dX12_stepBy_71 (by decide) ⟨by omega, by omega⟩ ⟨by omega, by omega⟩ rfl (fun c11 => ?_) (fun c11 => ?_)
      · have c11 : ¬ (vi ws 29 (Int.toNat (c0)) : Int) = v := c11
        refine hr_il C 2 dX12_stepBy_81 rfl rfl ?_
        refine hr_is (lv' := [(7, zv (c0)), (0, .ref r), (1, zv (v)), (4, zv (c0)), (5, zv (x)), (6, zv (y))]) C dX12_stepBy_83 (by decide) rfl rfl ?_
        have hz : c0 = sb1 L3 h0 v c0 := (by unfold sb1; first | rw [if_pos ⟨by omega, by rw [← n7]; omega⟩] | rw [if_neg (by rw [← n7]; omega)])
        refine hr_il C 4 dX12_stepBy_85 rfl rfl ?_
        refine hr_il C 5 dX12_stepBy_87 rfl rfl ?_
        refine hr_il C 0 dX12_stepBy_89 rfl rfl ?_
        refine hr_cS (As := [zv (x), zv (y), zv (c0)]) (rest := []) C (h_place h (x) (y) (c0)) ⟨by decide, by decide⟩ iS_X12_place g_X12_446 dX12_stepBy_91 rfl rfl (Nat.le_of_ble_eq_true rfl) rfl ⟨rfl, trivial⟩ (fun w12 rv o13 q14 => ?_)
        obtain ⟨rfl, rfl⟩ := q14
        refine hr_norm (st' := [zv (plc (x) (y) (c0))]) rfl ?_
        exact hr_iret C hlocks hr dX12_stepBy_94 ⟨rfl, by rw [hx, hy]; unfold sbp; rw [← hz]⟩
      · have c11 : (vi ws 29 (Int.toNat (c0)) : Int) = v := c11
        refine hr_il C 2 dX12_stepBy_74 rfl rfl ?_
        refine hr_ic C dX12_stepBy_76 rfl ?_
        refine hr_add C dX12_stepBy_77 rfl ?_
        refine hr_goto C 83 dX12_stepBy_78 (by decide) ?_
        refine hr_is (lv' := [(7, zv (c0 + 1)), (0, .ref r), (1, zv (v)), (4, zv (c0)), (5, zv (x)), (6, zv (y))]) C dX12_stepBy_83 (by decide) rfl rfl ?_
        have hz : c0 + 1 = sb1 L3 h0 v c0 := (by unfold sb1; first | rw [if_pos ⟨by omega, by rw [← n7]; omega⟩] | rw [if_neg (by rw [← n7]; omega)])
        refine hr_il C 4 dX12_stepBy_85 rfl rfl ?_
        refine hr_il C 5 dX12_stepBy_87 rfl rfl ?_
        refine hr_il C 0 dX12_stepBy_89 rfl rfl ?_
        refine hr_cS (As := [zv (x), zv (y), zv (c0 + 1)]) (rest := []) C (h_place h (x) (y) (c0 + 1)) ⟨by decide, by decide⟩ iS_X12_place g_X12_446 dX12_stepBy_91 rfl rfl (Nat.le_of_ble_eq_true rfl) rfl ⟨rfl, trivial⟩ (fun w15 rv o16 q17 => ?_)
        obtain ⟨rfl, rfl⟩ := q17
        refine hr_norm (st' := [zv (plc (x) (y) (c0 + 1))]) rfl ?_
        exact hr_iret C hlocks hr dX12_stepBy_94 ⟨rfl, by rw [hx, hy]; unfold sbp; rw [← hz]⟩
  have s2 : ∀ x : Int, x = sb1 L1 o v a → HW l E ad D cy (va_A ws s.heap.size) s.heap p e ({ frames := 1, cells := 0, slots := 0, locals := 22 }) s m ([.ref r, zv v, zv a, zv b, zv c0]).toArray below meth c (MQ below (hQ ad D cy (fun _ ws rv ws1 => ws = ws1 ∧ rv = some (zv (sbp L1 L2 L3 o t h0 v a b c0))) ([.ref r, zv v, zv a, zv b, zv c0]) ws s.heap.size) ([.ref r, zv v, zv a, zv b, zv c0]).toArray s 0 0 (va_A ws s.heap.size)) cX12_stepBy 8 yX12_stepBy.cls 27 [(0, .ref r), (1, zv v), (3, zv b), (4, zv c0), (5, zv x)] [] ws := by
    intro x hx
    refine hr_iln C 2 dX12_stepBy_27 rfl rfl rfl ?_
    refine hr_aln C 0 dX12_stepBy_28 rfl rfl rfl ?_
    refine hr_gI (lo := 0) (hi := 12) C hr0 TM0 rfl fl_X12_390 dX12_stepBy_29 rfl (fun b1 b2 => ?_)
    refine hr_cmp C 51 dX12_stepBy_32 (by decide) ⟨by omega, by omega⟩ ⟨by omega, by omega⟩ rfl (fun c3 => ?_) (fun c3 => ?_)
    · have c3 : (vi ws 0 46 : Int) ≤ b := c3
      refine hr_iln C 2 dX12_stepBy_51 rfl rfl rfl ?_
      refine hr_is (lv' := [(6, zv (b)), (0, .ref r), (1, zv (v)), (3, zv (b)), (4, zv (c0)), (5, zv (x))]) C dX12_stepBy_52 (by decide) rfl rfl ?_
      refine hr_pick (lv' := [(0, .ref r), (1, zv (v)), (4, zv (c0)), (5, zv (x)), (6, zv (b))]) [1, 2, 4, 5, 0] rfl ?_
      exact s3 _ _ hx (by unfold sb1; first | rw [if_pos ⟨by omega, by rw [← n6]; omega⟩] | rw [if_neg (by rw [← n6]; omega)])
    · have c3 : (b : Int) < vi ws 0 46 := c3
      refine hr_aln C 0 dX12_stepBy_35 rfl rfl rfl ?_
      refine hr_gA (g := 28) C hr0 TM0 rfl (by decide) fl_X12_98 dX12_stepBy_36 rfl (fun a4 ha5 => ?_)
      refine hr_iln C 2 dX12_stepBy_39 rfl rfl rfl ?_
      refine hr_ald C ha5 TMa_28 (by omega) (by omega) (by decide) dX12_stepBy_40 rfl (fun b6 b7 => ?_)
      have b6 := gp1 b6
      simp only [rg] at b7
      refine hr_iln C 1 dX12_stepBy_41 rfl rfl rfl ?_
      refine hr_cmp C 51 dX12_stepBy_42 (by decide) ⟨by omega, by omega⟩ ⟨by omega, by omega⟩ rfl (fun c8 => ?_) (fun c8 => ?_)
      · have c8 : ¬ (vi ws 28 (Int.toNat (b)) : Int) = v := c8
        refine hr_iln C 2 dX12_stepBy_51 rfl rfl rfl ?_
        refine hr_is (lv' := [(6, zv (b)), (0, .ref r), (1, zv (v)), (3, zv (b)), (4, zv (c0)), (5, zv (x))]) C dX12_stepBy_52 (by decide) rfl rfl ?_
        refine hr_pick (lv' := [(0, .ref r), (1, zv (v)), (4, zv (c0)), (5, zv (x)), (6, zv (b))]) [1, 2, 4, 5, 0] rfl ?_
        exact s3 _ _ hx (by unfold sb1; first | rw [if_pos ⟨by omega, by rw [← n6]; omega⟩] | rw [if_neg (by rw [← n6]; omega)])
      · have c8 : (vi ws 28 (Int.toNat (b)) : Int) = v := c8
        refine hr_iln C 2 dX12_stepBy_45 rfl rfl rfl ?_
        refine hr_ic C dX12_stepBy_46 rfl ?_
        refine hr_add C dX12_stepBy_47 rfl ?_
        refine hr_goto C 52 dX12_stepBy_48 (by decide) ?_
        refine hr_is (lv' := [(6, zv (b + 1)), (0, .ref r), (1, zv (v)), (3, zv (b)), (4, zv (c0)), (5, zv (x))]) C dX12_stepBy_52 (by decide) rfl rfl ?_
        refine hr_pick (lv' := [(0, .ref r), (1, zv (v)), (4, zv (c0)), (5, zv (x)), (6, zv (b + 1))]) [1, 2, 4, 5, 0] rfl ?_
        exact s3 _ _ hx (by unfold sb1; first | rw [if_pos ⟨by omega, by rw [← n6]; omega⟩] | rw [if_neg (by rw [← n6]; omega)])
  refine hr_iln C 2 dX12_stepBy_0 rfl rfl rfl ?_
  refine hr_aln C 0 dX12_stepBy_1 rfl rfl rfl ?_
  refine hr_gI (lo := 0) (hi := 12) C hr0 TM0 rfl fl_X12_384 dX12_stepBy_2 rfl (fun b1 b2 => ?_)
  refine hr_cmp C 24 dX12_stepBy_5 (by decide) ⟨by omega, by omega⟩ ⟨by omega, by omega⟩ rfl (fun c3 => ?_) (fun c3 => ?_)
  · have c3 : (vi ws 0 45 : Int) ≤ a := c3
    refine hr_iln C 2 dX12_stepBy_24 rfl rfl rfl ?_
    refine hr_is (lv' := [(5, zv (a)), (0, .ref r), (1, zv (v)), (2, zv (a)), (3, zv (b)), (4, zv (c0))]) C dX12_stepBy_25 (by decide) rfl rfl ?_
    refine hr_pick (lv' := [(0, .ref r), (1, zv (v)), (3, zv (b)), (4, zv (c0)), (5, zv (a))]) [1, 2, 4, 5, 0] rfl ?_
    exact s2 _ (by unfold sb1; first | rw [if_pos ⟨by omega, by rw [← n5]; omega⟩] | rw [if_neg (by rw [← n5]; omega)])
  · have c3 : (a : Int) < vi ws 0 45 := c3
    refine hr_aln C 0 dX12_stepBy_8 rfl rfl rfl ?_
    refine hr_gA (g := 27) C hr0 TM0 rfl (by decide) fl_X12_95 dX12_stepBy_9 rfl (fun a4 ha5 => ?_)
    refine hr_iln C 2 dX12_stepBy_12 rfl rfl rfl ?_
    refine hr_ald C ha5 TMa_27 (by omega) (by omega) (by decide) dX12_stepBy_13 rfl (fun b6 b7 => ?_)
    have b6 := gp1 b6
    simp only [rg] at b7
    refine hr_iln C 1 dX12_stepBy_14 rfl rfl rfl ?_
    refine hr_cmp C 24 dX12_stepBy_15 (by decide) ⟨by omega, by omega⟩ ⟨by omega, by omega⟩ rfl (fun c8 => ?_) (fun c8 => ?_)
    · have c8 : ¬ (vi ws 27 (Int.toNat (a)) : Int) = v := c8
      refine hr_iln C 2 dX12_stepBy_24 rfl rfl rfl ?_
      refine hr_is (lv' := [(5, zv (a)), (0, .ref r), (1, zv (v)), (2, zv (a)), (3, zv (b)), (4, zv (c0))]) C dX12_stepBy_25 (by decide) rfl rfl ?_
      refine hr_pick (lv' := [(0, .ref r), (1, zv (v)), (3, zv (b)), (4, zv (c0)), (5, zv (a))]) [1, 2, 4, 5, 0] rfl ?_
      exact s2 _ (by unfold sb1; first | rw [if_pos ⟨by omega, by rw [← n5]; omega⟩] | rw [if_neg (by rw [← n5]; omega)])
    · have c8 : (vi ws 27 (Int.toNat (a)) : Int) = v := c8
      refine hr_iln C 2 dX12_stepBy_18 rfl rfl rfl ?_
      refine hr_ic C dX12_stepBy_19 rfl ?_
      refine hr_add C dX12_stepBy_20 rfl ?_
      refine hr_goto C 25 dX12_stepBy_21 (by decide) ?_
      refine hr_is (lv' := [(5, zv (a + 1)), (0, .ref r), (1, zv (v)), (2, zv (a)), (3, zv (b)), (4, zv (c0))]) C dX12_stepBy_25 (by decide) rfl rfl ?_
      refine hr_pick (lv' := [(0, .ref r), (1, zv (v)), (3, zv (b)), (4, zv (c0)), (5, zv (a + 1))]) [1, 2, 4, 5, 0] rfl ?_
      exact s2 _ (by unfold sb1; first | rw [if_pos ⟨by omega, by rw [← n5]; omega⟩] | rw [if_neg (by rw [← n5]; omega)])
set_option maxRecDepth 100000 in
set_option maxHeartbeats 4000000 in
theorem h_layNeed {l : Launch} {E : (Nat → Prop) → State → Prop} {ad : List Nat} {D : va_G} {cy : Nat → ClassId} (h : fx_env E D classes (tys cy) nestW) (r : Nat) (a b c0 : Int) (L1 L2 L3 W : Int) (o t h0 : Nat → Int) (hr0 : ad[0]? = some r) (hL : L1 ≤ 12 ∧ L2 ≤ 12 ∧ L3 ≤ 12) (hW0 : 0 ≤ W) (hW : W ≤ 9) (hT : rgT L1 L2 L3 a b c0) (ho : OWs L1 W o) (ht : OWs L2 W t) (hh0 : OWs L3 W h0) : hM l yX12_layNeed cX12_layNeed 9 none ({ frames := 2, cells := 0, slots := 0, locals := 49 }) E ad D cy (fun av ws => av = [.ref r, zv a, zv b, zv c0] ∧ EN ws L1 L2 L3 W o t h0 ∧ AL L1 L2 L3 W o t h0 (vi ws 32) (plc a b c0)) (fun _ ws rv ws1 => fx_sm (gsM, TM, cy, fun _ => True) [(1000, 32), (1000, 33)] ws ws1 ∧ rv = none ∧ AL L1 L2 L3 W o t h0 (vi ws1 32) (plc a b c0 - 1)) := by
  refine hM_of h (by decide) ?_
  intro av ws p e s m below meth c hwo hnd hpre hlocks hr C
  obtain ⟨rfl, hpre⟩ := hpre
  refine ⟨Nat.le_of_ble_eq_true rfl, ?_⟩
  obtain ⟨hen, hal⟩ := hpre
  have hT2 := hT
  unfold rgT at hT2
  obtain ⟨P, hP⟩ : ∃ P, P = plc a b c0 := ⟨_, rfl⟩
  have hP2 : P = 169 * a + 13 * b + c0 := hP
  refine hr_pick (lv' := [(0, .ref r), (1, zv a), (2, zv b), (3, zv c0)]) [0, 1, 2, 3] rfl ?_
  have hal1 : AL L1 L2 L3 W o t h0 (vi ws 32) P := by rw [hP]; exact hal
  have fin : ∀ w : va_W, (∀ x : Nat, (x : Int) ≠ P → vi w 32 x = vi ws 32 x) → PLs L1 L2 L3 W o t h0 (vi w 32) a b c0 → AL L1 L2 L3 W o t h0 (vi w 32) (plc a b c0 - 1) := by
    intro w hk hp
    have := AL_next hP hL hT hk hal1 hp
    rw [hP] at this
    exact this
  have doneK : ∀ (w : va_W), fx_wo (gsM, TM, cy, fun _ => True) ad w → fx_sm (gsM, TM, cy, fun _ => True) [(1000, 32), (1000, 33)] ws w → (∀ x : Nat, (x : Int) ≠ P → vi w 32 x = vi ws 32 x) → vi w 32 (Int.toNat P) = 0 → HW l E ad D cy (va_A ws s.heap.size) s.heap p e ({ frames := 2, cells := 0, slots := 0, locals := 49 }) s m ([.ref r, zv a, zv b, zv c0]).toArray below meth c (MQ below (hQ ad D cy (fun _ ws rv ws1 => fx_sm (gsM, TM, cy, fun _ => True) [(1000, 32), (1000, 33)] ws ws1 ∧ rv = none ∧ AL L1 L2 L3 W o t h0 (vi ws1 32) (plc a b c0 - 1)) ([.ref r, zv a, zv b, zv c0]) ws s.heap.size) ([.ref r, zv a, zv b, zv c0]).toArray s 0 0 (va_A ws s.heap.size)) cX12_layNeed 9 yX12_layNeed.cls 78 [(0, .ref r), (1, zv a), (2, zv b), (3, zv c0), (4, zv P), (5, zv 1), (6, zv 0)] [] w := by
    intro w how sm hkeep hz
    have hp0 : PLs L1 L2 L3 W o t h0 (vi w 32) a b c0 := by rw [hP] at hz; exact ⟨by omega, by omega, fun q => by omega⟩
    refine hr_il C 6 dX12_layNeed_78 rfl rfl ?_
    refine hr_aln C 0 dX12_layNeed_80 rfl rfl rfl ?_
    refine hr_gA (g := 3) C hr0 TM0 rfl (by decide) fl_X12_20 dX12_layNeed_81 rfl (fun a1 ha2 => ?_)
    refine hr_aln C 0 dX12_layNeed_84 rfl rfl rfl ?_
    refine hr_gI (lo := 0) (hi := 1) C hr0 TM0 rfl fl_X12_274 dX12_layNeed_85 rfl (fun b3 b4 => ?_)
    refine hr_ald C ha2 TMa_3 (by omega) (by omega) (by decide) dX12_layNeed_88 rfl (fun b5 b6 => ?_)
    have b5 := gp1 b5
    simp only [rg] at b6
    refine hr_cmp C 205 dX12_layNeed_89 (by decide) ⟨by omega, by omega⟩ ⟨by omega, by omega⟩ rfl (fun c7 => ?_) (fun c7 => ?_)
    · have c7 : (vi w 3 (Int.toNat (vi w 0 34)) : Int) ≤ 0 := c7
      exact hr_vret C hlocks hr dX12_layNeed_205 ⟨sm, rfl, fin w hkeep hp0⟩
    · have c7 : (0 : Int) < vi w 3 (Int.toNat (vi w 0 34)) := c7
      refine hr_il C 5 dX12_layNeed_92 rfl rfl ?_
      refine hr_if C 205 dX12_layNeed_94 (by decide) ⟨by omega, by omega⟩ rfl (fun c8 => ?_) (fun c8 => absurd (show (1 : Int) = 0 from c8) (by omega))
      have c8 : ¬ (1 : Int) = 0 := c8
      exact hr_vret C hlocks hr dX12_layNeed_205 ⟨sm, rfl, fin w hkeep hp0⟩
  have loop : ∀ (q : Nat) (v : Int) (w : va_W), (W - v).toNat < q → fx_wo (gsM, TM, cy, fun _ => True) ad w → 0 ≤ v → v ≤ W → fx_sm (gsM, TM, cy, fun _ => True) [(1000, 32), (1000, 33)] ws w → EN w L1 L2 L3 W o t h0 → (∀ x : Nat, (x : Int) ≠ P → vi w 32 x = vi ws 32 x) → ¬ (a = L1 ∧ b = L2 ∧ c0 = L3) → LN L1 L2 L3 o t h0 (vi w 32) a b c0 v → HW l E ad D cy (va_A ws s.heap.size) s.heap p e ({ frames := 2, cells := 0, slots := 0, locals := 49 }) s m ([.ref r, zv a, zv b, zv c0]).toArray below meth c (MQ below (hQ ad D cy (fun _ ws rv ws1 => fx_sm (gsM, TM, cy, fun _ => True) [(1000, 32), (1000, 33)] ws ws1 ∧ rv = none ∧ AL L1 L2 L3 W o t h0 (vi ws1 32) (plc a b c0 - 1)) ([.ref r, zv a, zv b, zv c0]) ws s.heap.size) ([.ref r, zv a, zv b, zv c0]).toArray s 0 0 (va_A ws s.heap.size)) cX12_layNeed 9 yX12_layNeed.cls 78 [(0, .ref r), (1, zv a), (2, zv b), (3, zv c0), (4, zv P), (5, zv 0), (6, zv v)] [] w := by
    intro q
    induction q with
    | zero => intro v w hq; omega
    | succ q ih =>
      intro v w hq how h1 h2 sm hen2 hkeep hnd0 hln
      obtain ⟨n1, n2, n3, n4, n5, n6, n7⟩ := id hen2
      have hal2 : AL L1 L2 L3 W o t h0 (vi w 32) P := AL_keep hkeep hal1
      refine hr_il C 6 dX12_layNeed_78 rfl rfl ?_
      refine hr_aln C 0 dX12_layNeed_80 rfl rfl rfl ?_
      refine hr_gA (g := 3) C hr0 TM0 rfl (by decide) fl_X12_20 dX12_layNeed_81 rfl (fun a1 ha2 => ?_)
      refine hr_aln C 0 dX12_layNeed_84 rfl rfl rfl ?_
      refine hr_gI (lo := 0) (hi := 1) C hr0 TM0 rfl fl_X12_274 dX12_layNeed_85 rfl (fun b3 b4 => ?_)
      refine hr_ald C ha2 TMa_3 (by omega) (by omega) (by decide) dX12_layNeed_88 rfl (fun b5 b6 => ?_)
      have b5 := gp1 b5
      simp only [rg] at b6
      refine hr_cmp C 205 dX12_layNeed_89 (by decide) ⟨by omega, by omega⟩ ⟨by omega, by omega⟩ rfl (fun c7 => ?_) (fun c7 => ?_)
      · have c7 : (vi w 3 (Int.toNat (vi w 0 34)) : Int) ≤ v := c7
        have ev : v = W := by omega
        rw [ev] at hln
        exact hr_vret C hlocks hr dX12_layNeed_205 ⟨sm, rfl, fin w hkeep (LN_end hL hT ho ht hh0 hnd0 (by rw [← hP]; exact hal2) hln)⟩
      · have c7 : (v : Int) < vi w 3 (Int.toNat (vi w 0 34)) := c7
        refine hr_il C 5 dX12_layNeed_92 rfl rfl ?_
        refine hr_if C 205 dX12_layNeed_94 (by decide) ⟨by omega, by omega⟩ rfl (fun c8 => absurd (show ¬ (0 : Int) = 0 from c8) (by omega)) (fun c8 => ?_)
        have c8 : (0 : Int) = 0 := c8
        refine hr_aln C 0 dX12_layNeed_97 rfl rfl rfl ?_
        refine hr_il C 6 dX12_layNeed_98 rfl rfl ?_
        refine hr_iln C 1 dX12_layNeed_100 rfl rfl rfl ?_
        refine hr_iln C 2 dX12_layNeed_101 rfl rfl rfl ?_
        refine hr_iln C 3 dX12_layNeed_102 rfl rfl rfl ?_
        refine hr_cV (As := [zv (v), zv (a), zv (b), zv (c0)]) (rest := []) C (h_stepBy h r (v) (a) (b) (c0) L1 L2 L3 W o t h0 hr0 ⟨by omega, by omega⟩ ⟨by omega, by omega⟩ ⟨by omega, by omega⟩ ⟨by omega, by omega⟩) ⟨by decide, by decide⟩ iV_X12_stepBy g_X12_449 TM0 hr0 dX12_layNeed_103 rfl rfl (Nat.le_of_ble_eq_true rfl) rfl ⟨rfl, hen2⟩ (fun w9 rv o10 q11 => ?_)
        obtain ⟨rfl, rfl⟩ := q11
        refine hr_norm (st' := [zv (sbp L1 L2 L3 o t h0 (v) (a) (b) (c0))]) rfl ?_
        obtain ⟨X, hX⟩ : ∃ X, X = sbp L1 L2 L3 o t h0 v a b c0 := ⟨_, rfl⟩
        rw [← hX]
        obtain ⟨x1, y1, z1, eX, hx1, g1, g2, g3, g4, g5, g6⟩ := sbp_rg (o := o) (t := t) (h := h0) (v := v) hT
        rw [← hX] at eX
        have hx2 := hx1
        unfold rgT at hx2
        have eX2 : X = 169 * x1 + 13 * y1 + z1 := eX
        refine hr_is (lv' := [(7, zv (X)), (0, .ref r), (1, zv (a)), (2, zv (b)), (3, zv (c0)), (4, zv (P)), (5, zv (0)), (6, zv (v))]) C dX12_layNeed_106 (by decide) rfl rfl ?_
        refine hr_il C 0 dX12_layNeed_108 rfl rfl ?_
        refine hr_il C 5 dX12_layNeed_110 rfl rfl ?_
        refine hr_cmp C 118 dX12_layNeed_112 (by decide) ⟨by omega, by omega⟩ ⟨by omega, by omega⟩ rfl (fun c12 => ?_) (fun c12 => ?_)
        · have c12 : ¬ (X : Int) = P := c12
          have hgt : P < plc x1 y1 z1 := by rw [← eX]; omega
          obtain ⟨p1, p2, -⟩ := hal2 x1 y1 z1 hx1 hgt
          rw [← eX] at p1 p2
          refine hr_aln C 1 dX12_layNeed_118 rfl rfl rfl ?_
          refine hr_gA (g := 32) C hr0 TM0 rfl (by decide) fl_X12_110 dX12_layNeed_119 rfl (fun a13 ha14 => ?_)
          refine hr_il C 0 dX12_layNeed_122 rfl rfl ?_
          refine hr_ald C ha14 TMa_32 (by omega) (by omega) (by decide) dX12_layNeed_124 rfl (fun b15 b16 => ?_)
          have b15 := gp1 b15
          simp only [rg] at b16
          refine hr_ic C dX12_layNeed_125 rfl ?_
          refine hr_add C dX12_layNeed_126 rfl ?_
          refine hr_is (lv' := [(8, zv ((vi w 32 (Int.toNat (X))) + 1)), (7, zv (X)), (0, .ref r), (1, zv (a)), (2, zv (b)), (3, zv (c0)), (4, zv (P)), (5, zv (0)), (6, zv (v))]) C dX12_layNeed_127 (by decide) rfl rfl ?_
          refine hr_il C 0 dX12_layNeed_129 rfl rfl ?_
          refine hr_aln C 2 dX12_layNeed_131 rfl rfl rfl ?_
          refine hr_gA (g := 32) C hr0 TM0 rfl (by decide) fl_X12_110 dX12_layNeed_132 rfl (fun a17 ha18 => ?_)
          refine hr_il C 6 dX12_layNeed_135 rfl rfl ?_
          refine hr_ald C ha18 TMa_32 (by omega) (by omega) (by decide) dX12_layNeed_137 rfl (fun b19 b20 => ?_)
          have b19 := gp1 b19
          simp only [rg] at b20
          refine hr_cmp C 149 dX12_layNeed_138 (by decide) ⟨by omega, by omega⟩ ⟨by omega, by omega⟩ rfl (fun c21 => ?_) (fun c21 => ?_)
          · have c21 : (vi w 32 (Int.toNat (P)) : Int) ≤ (vi w 32 (Int.toNat (X))) + 1 := c21
            refine hr_il C 0 dX12_layNeed_149 rfl rfl ?_
            refine hr_aln C 2 dX12_layNeed_151 rfl rfl rfl ?_
            refine hr_gA (g := 32) C hr0 TM0 rfl (by decide) fl_X12_110 dX12_layNeed_152 rfl (fun a22 ha23 => ?_)
            refine hr_il C 6 dX12_layNeed_155 rfl rfl ?_
            refine hr_ald C ha23 TMa_32 (by omega) (by omega) (by decide) dX12_layNeed_157 rfl (fun b24 b25 => ?_)
            have b24 := gp1 b24
            simp only [rg] at b25
            refine hr_cmp C 170 dX12_layNeed_158 (by decide) ⟨by omega, by omega⟩ ⟨by omega, by omega⟩ rfl (fun c26 => ?_) (fun c26 => ?_)
            · have c26 : (vi w 32 (Int.toNat (P)) : Int) ≤ (vi w 32 (Int.toNat (X))) + 1 := c26
              refine hr_il C 0 dX12_layNeed_170 rfl rfl ?_
              refine hr_aln C 2 dX12_layNeed_172 rfl rfl rfl ?_
              refine hr_gA (g := 32) C hr0 TM0 rfl (by decide) fl_X12_110 dX12_layNeed_173 rfl (fun a27 ha28 => ?_)
              refine hr_il C 6 dX12_layNeed_176 rfl rfl ?_
              refine hr_ald C ha28 TMa_32 (by omega) (by omega) (by decide) dX12_layNeed_178 rfl (fun b29 b30 => ?_)
              have b29 := gp1 b29
              simp only [rg] at b30
              refine hr_cmp C 199 dX12_layNeed_179 (by decide) ⟨by omega, by omega⟩ ⟨by omega, by omega⟩ rfl (fun c31 => ?_) (fun c31 => ?_)
              · have c31 : ¬ ((vi w 32 (Int.toNat (X))) + 1 : Int) = vi w 32 (Int.toNat (P)) := c31
                refine hr_inc (lv' := [(6, zv (v + 1)), (8, zv ((vi w 32 (Int.toNat (X))) + 1)), (7, zv (X)), (0, .ref r), (1, zv (a)), (2, zv (b)), (3, zv (c0)), (4, zv (P)), (5, zv (0))]) C 8 dX12_layNeed_199 rfl (by decide) rfl rfl ?_
                refine hr_goto C 78 dX12_layNeed_202 (by decide) ?_
                refine hr_pick (lv' := [(0, .ref r), (1, zv (a)), (2, zv (b)), (3, zv (c0)), (4, zv (P)), (5, zv (0)), (6, zv (v + 1))]) [3, 4, 5, 6, 7, 8, 0] rfl ?_
                have k1 : vi w 32 (Int.toNat (P)) = vi w 32 (Int.toNat (P)) := by rfl
                have k2 : ∀ x : Nat, (x : Int) ≠ P → vi w 32 x = vi w 32 x := by intro x hx; rfl
                have sm2 := sm
                exact ih _ _ (by omega) how (by omega) (by omega) sm2 (en_sm hwo how sm2 (by decide) hen) (fun x hx => (k2 x hx).trans (hkeep x hx)) hnd0 (LN_take hT hP hX (by omega) (by omega) p1 k2 (by omega) hln)
              · have c31 : ((vi w 32 (Int.toNat (X))) + 1 : Int) = vi w 32 (Int.toNat (P)) := c31
                refine hr_aln C 2 dX12_layNeed_182 rfl rfl rfl ?_
                refine hr_gA (g := 33) C hr0 TM0 rfl (by decide) fl_X12_113 dX12_layNeed_183 rfl (fun a32 ha33 => ?_)
                refine hr_il C 6 dX12_layNeed_186 rfl rfl ?_
                refine hr_dup2 C dX12_layNeed_188 rfl rfl rfl ?_
                refine hr_ald C ha33 TMa_33 (by omega) (by omega) (by decide) dX12_layNeed_189 rfl (fun b34 b35 => ?_)
                have b34 := gp1 b34
                simp only [rg] at b35
                refine hr_aln C 2 dX12_layNeed_190 rfl rfl rfl ?_
                refine hr_gA (g := 33) C hr0 TM0 rfl (by decide) fl_X12_113 dX12_layNeed_191 rfl (fun a36 ha37 => ?_)
                refine hr_il C 1 dX12_layNeed_194 rfl rfl ?_
                refine hr_ald C ha37 TMa_33 (by omega) (by omega) (by decide) dX12_layNeed_196 rfl (fun b38 b39 => ?_)
                have b38 := gp1 b38
                simp only [rg] at b39
                refine hr_add C dX12_layNeed_197 rfl ?_
                obtain ⟨z40, h41, e42, n43⟩ := zv_norm ((vi w 33 (Int.toNat (P))) + (vi w 33 (Int.toNat (X))))
                rw [e42]
                simp only [rg] at h41
                refine hr_ast C ha33 TMa_33 (by omega) (by omega) (by decide) ⟨by omega, by omega⟩ (hp1 (by omega) (by omega)) dX12_layNeed_198 rfl (fun w44 o45 s46 e47 => ?_)
                refine hr_inc (lv' := [(6, zv (v + 1)), (8, zv ((vi w 32 (Int.toNat (X))) + 1)), (7, zv (X)), (0, .ref r), (1, zv (a)), (2, zv (b)), (3, zv (c0)), (4, zv (P)), (5, zv (0))]) C 8 dX12_layNeed_199 rfl (by decide) rfl rfl ?_
                refine hr_goto C 78 dX12_layNeed_202 (by decide) ?_
                refine hr_pick (lv' := [(0, .ref r), (1, zv (a)), (2, zv (b)), (3, zv (c0)), (4, zv (P)), (5, zv (0)), (6, zv (v + 1))]) [3, 4, 5, 6, 7, 8, 0] rfl ?_
                have k1 : vi w44 32 (Int.toNat (P)) = vi w 32 (Int.toNat (P)) := by rw [e47, if_neg (by omega)]
                have k2 : ∀ x : Nat, (x : Int) ≠ P → vi w44 32 x = vi w 32 x := by intro x hx; rw [e47, if_neg (by omega)]
                have sm2 := (fx_sm_tr sm s46 (by decide))
                exact ih _ _ (by omega) o45 (by omega) (by omega) sm2 (en_sm hwo o45 sm2 (by decide) hen) (fun x hx => (k2 x hx).trans (hkeep x hx)) hnd0 (LN_take hT hP hX (by omega) (by omega) p1 k2 (by omega) hln)
            · have c26 : ((vi w 32 (Int.toNat (X))) + 1 : Int) < vi w 32 (Int.toNat (P)) := c26
              refine hr_aln C 2 dX12_layNeed_161 rfl rfl rfl ?_
              refine hr_gA (g := 32) C hr0 TM0 rfl (by decide) fl_X12_110 dX12_layNeed_162 rfl (fun a48 ha49 => ?_)
              refine hr_il C 6 dX12_layNeed_165 rfl rfl ?_
              refine hr_il C 0 dX12_layNeed_167 rfl rfl ?_
              refine hr_ast C ha49 TMa_32 (by omega) (by omega) (by decide) ⟨by omega, by omega⟩ (hp1 (by omega) (by omega)) dX12_layNeed_169 rfl (fun w50 o51 s52 e53 => ?_)
              refine hr_il C 0 dX12_layNeed_170 rfl rfl ?_
              refine hr_aln C 2 dX12_layNeed_172 rfl rfl rfl ?_
              refine hr_gA (g := 32) C hr0 TM0 rfl (by decide) fl_X12_110 dX12_layNeed_173 rfl (fun a54 ha55 => ?_)
              refine hr_il C 6 dX12_layNeed_176 rfl rfl ?_
              refine hr_ald C ha55 TMa_32 (by omega) (by omega) (by decide) dX12_layNeed_178 rfl (fun b56 b57 => ?_)
              have b56 := gp1 b56
              have q58 : vi w50 32 (Int.toNat (P)) = (vi w 32 (Int.toNat (X))) + 1 := by rw [e53, if_pos ⟨rfl, rfl⟩]
              rw [q58] at b56 b57 ⊢
              simp only [rg] at b57
              refine hr_cmp C 199 dX12_layNeed_179 (by decide) ⟨by omega, by omega⟩ ⟨by omega, by omega⟩ rfl (fun c59 => ?_) (fun c59 => ?_)
              · have c59 : ¬ ((vi w 32 (Int.toNat (X))) + 1 : Int) = (vi w 32 (Int.toNat (X))) + 1 := c59
                refine hr_inc (lv' := [(6, zv (v + 1)), (8, zv ((vi w 32 (Int.toNat (X))) + 1)), (7, zv (X)), (0, .ref r), (1, zv (a)), (2, zv (b)), (3, zv (c0)), (4, zv (P)), (5, zv (0))]) C 8 dX12_layNeed_199 rfl (by decide) rfl rfl ?_
                refine hr_goto C 78 dX12_layNeed_202 (by decide) ?_
                refine hr_pick (lv' := [(0, .ref r), (1, zv (a)), (2, zv (b)), (3, zv (c0)), (4, zv (P)), (5, zv (0)), (6, zv (v + 1))]) [3, 4, 5, 6, 7, 8, 0] rfl ?_
                have k1 : vi w50 32 (Int.toNat (P)) = (vi w 32 (Int.toNat (X))) + 1 := by rw [e53, if_pos ⟨rfl, rfl⟩]
                have k2 : ∀ x : Nat, (x : Int) ≠ P → vi w50 32 x = vi w 32 x := by intro x hx; rw [e53, if_neg (by omega)]
                have sm2 := (fx_sm_tr sm s52 (by decide))
                exact ih _ _ (by omega) o51 (by omega) (by omega) sm2 (en_sm hwo o51 sm2 (by decide) hen) (fun x hx => (k2 x hx).trans (hkeep x hx)) hnd0 (LN_take hT hP hX (by omega) (by omega) p1 k2 (by omega) hln)
              · have c59 : ((vi w 32 (Int.toNat (X))) + 1 : Int) = (vi w 32 (Int.toNat (X))) + 1 := c59
                refine hr_aln C 2 dX12_layNeed_182 rfl rfl rfl ?_
                refine hr_gA (g := 33) C hr0 TM0 rfl (by decide) fl_X12_113 dX12_layNeed_183 rfl (fun a60 ha61 => ?_)
                refine hr_il C 6 dX12_layNeed_186 rfl rfl ?_
                refine hr_dup2 C dX12_layNeed_188 rfl rfl rfl ?_
                refine hr_ald C ha61 TMa_33 (by omega) (by omega) (by decide) dX12_layNeed_189 rfl (fun b62 b63 => ?_)
                have b62 := gp1 b62
                have q64 : vi w50 33 (Int.toNat (P)) = vi w 33 (Int.toNat (P)) := by rw [e53, if_neg (by omega)]
                rw [q64] at b62 b63 ⊢
                simp only [rg] at b63
                refine hr_aln C 2 dX12_layNeed_190 rfl rfl rfl ?_
                refine hr_gA (g := 33) C hr0 TM0 rfl (by decide) fl_X12_113 dX12_layNeed_191 rfl (fun a65 ha66 => ?_)
                refine hr_il C 1 dX12_layNeed_194 rfl rfl ?_
                refine hr_ald C ha66 TMa_33 (by omega) (by omega) (by decide) dX12_layNeed_196 rfl (fun b67 b68 => ?_)
                have b67 := gp1 b67
                have q69 : vi w50 33 (Int.toNat (X)) = vi w 33 (Int.toNat (X)) := by rw [e53, if_neg (by omega)]
                rw [q69] at b67 b68 ⊢
                simp only [rg] at b68
                refine hr_add C dX12_layNeed_197 rfl ?_
                obtain ⟨z70, h71, e72, n73⟩ := zv_norm ((vi w 33 (Int.toNat (P))) + (vi w 33 (Int.toNat (X))))
                rw [e72]
                simp only [rg] at h71
                refine hr_ast C ha61 TMa_33 (by omega) (by omega) (by decide) ⟨by omega, by omega⟩ (hp1 (by omega) (by omega)) dX12_layNeed_198 rfl (fun w74 o75 s76 e77 => ?_)
                refine hr_inc (lv' := [(6, zv (v + 1)), (8, zv ((vi w 32 (Int.toNat (X))) + 1)), (7, zv (X)), (0, .ref r), (1, zv (a)), (2, zv (b)), (3, zv (c0)), (4, zv (P)), (5, zv (0))]) C 8 dX12_layNeed_199 rfl (by decide) rfl rfl ?_
                refine hr_goto C 78 dX12_layNeed_202 (by decide) ?_
                refine hr_pick (lv' := [(0, .ref r), (1, zv (a)), (2, zv (b)), (3, zv (c0)), (4, zv (P)), (5, zv (0)), (6, zv (v + 1))]) [3, 4, 5, 6, 7, 8, 0] rfl ?_
                have k1 : vi w74 32 (Int.toNat (P)) = (vi w 32 (Int.toNat (X))) + 1 := by rw [e77, if_neg (by omega)]; rw [e53, if_pos ⟨rfl, rfl⟩]
                have k2 : ∀ x : Nat, (x : Int) ≠ P → vi w74 32 x = vi w 32 x := by intro x hx; rw [e77, if_neg (by omega)]; rw [e53, if_neg (by omega)]
                have sm2 := (fx_sm_tr (fx_sm_tr sm s52 (by decide)) s76 (by decide))
                exact ih _ _ (by omega) o75 (by omega) (by omega) sm2 (en_sm hwo o75 sm2 (by decide) hen) (fun x hx => (k2 x hx).trans (hkeep x hx)) hnd0 (LN_take hT hP hX (by omega) (by omega) p1 k2 (by omega) hln)
          · have c21 : ((vi w 32 (Int.toNat (X))) + 1 : Int) < vi w 32 (Int.toNat (P)) := c21
            refine hr_aln C 2 dX12_layNeed_141 rfl rfl rfl ?_
            refine hr_gA (g := 33) C hr0 TM0 rfl (by decide) fl_X12_113 dX12_layNeed_142 rfl (fun a78 ha79 => ?_)
            refine hr_il C 6 dX12_layNeed_145 rfl rfl ?_
            refine hr_ic C dX12_layNeed_147 rfl ?_
            refine hr_ast C ha79 TMa_33 (by omega) (by omega) (by decide) ⟨by omega, by omega⟩ (hp1 (by omega) (by omega)) dX12_layNeed_148 rfl (fun w80 o81 s82 e83 => ?_)
            refine hr_il C 0 dX12_layNeed_149 rfl rfl ?_
            refine hr_aln C 2 dX12_layNeed_151 rfl rfl rfl ?_
            refine hr_gA (g := 32) C hr0 TM0 rfl (by decide) fl_X12_110 dX12_layNeed_152 rfl (fun a84 ha85 => ?_)
            refine hr_il C 6 dX12_layNeed_155 rfl rfl ?_
            refine hr_ald C ha85 TMa_32 (by omega) (by omega) (by decide) dX12_layNeed_157 rfl (fun b86 b87 => ?_)
            have b86 := gp1 b86
            have q88 : vi w80 32 (Int.toNat (P)) = vi w 32 (Int.toNat (P)) := by rw [e83, if_neg (by omega)]
            rw [q88] at b86 b87 ⊢
            simp only [rg] at b87
            refine hr_cmp C 170 dX12_layNeed_158 (by decide) ⟨by omega, by omega⟩ ⟨by omega, by omega⟩ rfl (fun c89 => ?_) (fun c89 => ?_)
            · have c89 : (vi w 32 (Int.toNat (P)) : Int) ≤ (vi w 32 (Int.toNat (X))) + 1 := c89
              refine hr_il C 0 dX12_layNeed_170 rfl rfl ?_
              refine hr_aln C 2 dX12_layNeed_172 rfl rfl rfl ?_
              refine hr_gA (g := 32) C hr0 TM0 rfl (by decide) fl_X12_110 dX12_layNeed_173 rfl (fun a90 ha91 => ?_)
              refine hr_il C 6 dX12_layNeed_176 rfl rfl ?_
              refine hr_ald C ha91 TMa_32 (by omega) (by omega) (by decide) dX12_layNeed_178 rfl (fun b92 b93 => ?_)
              have b92 := gp1 b92
              have q94 : vi w80 32 (Int.toNat (P)) = vi w 32 (Int.toNat (P)) := by rw [e83, if_neg (by omega)]
              rw [q94] at b92 b93 ⊢
              simp only [rg] at b93
              refine hr_cmp C 199 dX12_layNeed_179 (by decide) ⟨by omega, by omega⟩ ⟨by omega, by omega⟩ rfl (fun c95 => ?_) (fun c95 => ?_)
              · have c95 : ¬ ((vi w 32 (Int.toNat (X))) + 1 : Int) = vi w 32 (Int.toNat (P)) := c95
                refine hr_inc (lv' := [(6, zv (v + 1)), (8, zv ((vi w 32 (Int.toNat (X))) + 1)), (7, zv (X)), (0, .ref r), (1, zv (a)), (2, zv (b)), (3, zv (c0)), (4, zv (P)), (5, zv (0))]) C 8 dX12_layNeed_199 rfl (by decide) rfl rfl ?_
                refine hr_goto C 78 dX12_layNeed_202 (by decide) ?_
                refine hr_pick (lv' := [(0, .ref r), (1, zv (a)), (2, zv (b)), (3, zv (c0)), (4, zv (P)), (5, zv (0)), (6, zv (v + 1))]) [3, 4, 5, 6, 7, 8, 0] rfl ?_
                have k1 : vi w80 32 (Int.toNat (P)) = vi w 32 (Int.toNat (P)) := by rw [e83, if_neg (by omega)]
                have k2 : ∀ x : Nat, (x : Int) ≠ P → vi w80 32 x = vi w 32 x := by intro x hx; rw [e83, if_neg (by omega)]
                have sm2 := (fx_sm_tr sm s82 (by decide))
                exact ih _ _ (by omega) o81 (by omega) (by omega) sm2 (en_sm hwo o81 sm2 (by decide) hen) (fun x hx => (k2 x hx).trans (hkeep x hx)) hnd0 (LN_take hT hP hX (by omega) (by omega) p1 k2 (by omega) hln)
              · have c95 : ((vi w 32 (Int.toNat (X))) + 1 : Int) = vi w 32 (Int.toNat (P)) := c95
                refine hr_aln C 2 dX12_layNeed_182 rfl rfl rfl ?_
                refine hr_gA (g := 33) C hr0 TM0 rfl (by decide) fl_X12_113 dX12_layNeed_183 rfl (fun a96 ha97 => ?_)
                refine hr_il C 6 dX12_layNeed_186 rfl rfl ?_
                refine hr_dup2 C dX12_layNeed_188 rfl rfl rfl ?_
                refine hr_ald C ha97 TMa_33 (by omega) (by omega) (by decide) dX12_layNeed_189 rfl (fun b98 b99 => ?_)
                have b98 := gp1 b98
                have q100 : vi w80 33 (Int.toNat (P)) = 0 := by rw [e83, if_pos ⟨rfl, rfl⟩]
                rw [q100] at b98 b99 ⊢
                simp only [rg] at b99
                refine hr_aln C 2 dX12_layNeed_190 rfl rfl rfl ?_
                refine hr_gA (g := 33) C hr0 TM0 rfl (by decide) fl_X12_113 dX12_layNeed_191 rfl (fun a101 ha102 => ?_)
                refine hr_il C 1 dX12_layNeed_194 rfl rfl ?_
                refine hr_ald C ha102 TMa_33 (by omega) (by omega) (by decide) dX12_layNeed_196 rfl (fun b103 b104 => ?_)
                have b103 := gp1 b103
                simp only [rg] at b104
                refine hr_add C dX12_layNeed_197 rfl ?_
                obtain ⟨z105, h106, e107, n108⟩ := zv_norm (0 + (vi w80 33 (Int.toNat (X))))
                rw [e107]
                simp only [rg] at h106
                refine hr_ast C ha97 TMa_33 (by omega) (by omega) (by decide) ⟨by omega, by omega⟩ (hp1 (by omega) (by omega)) dX12_layNeed_198 rfl (fun w109 o110 s111 e112 => ?_)
                refine hr_inc (lv' := [(6, zv (v + 1)), (8, zv ((vi w 32 (Int.toNat (X))) + 1)), (7, zv (X)), (0, .ref r), (1, zv (a)), (2, zv (b)), (3, zv (c0)), (4, zv (P)), (5, zv (0))]) C 8 dX12_layNeed_199 rfl (by decide) rfl rfl ?_
                refine hr_goto C 78 dX12_layNeed_202 (by decide) ?_
                refine hr_pick (lv' := [(0, .ref r), (1, zv (a)), (2, zv (b)), (3, zv (c0)), (4, zv (P)), (5, zv (0)), (6, zv (v + 1))]) [3, 4, 5, 6, 7, 8, 0] rfl ?_
                have k1 : vi w109 32 (Int.toNat (P)) = vi w 32 (Int.toNat (P)) := by rw [e112, if_neg (by omega)]; rw [e83, if_neg (by omega)]
                have k2 : ∀ x : Nat, (x : Int) ≠ P → vi w109 32 x = vi w 32 x := by intro x hx; rw [e112, if_neg (by omega)]; rw [e83, if_neg (by omega)]
                have sm2 := (fx_sm_tr (fx_sm_tr sm s82 (by decide)) s111 (by decide))
                exact ih _ _ (by omega) o110 (by omega) (by omega) sm2 (en_sm hwo o110 sm2 (by decide) hen) (fun x hx => (k2 x hx).trans (hkeep x hx)) hnd0 (LN_take hT hP hX (by omega) (by omega) p1 k2 (by omega) hln)
            · have c89 : ((vi w 32 (Int.toNat (X))) + 1 : Int) < vi w 32 (Int.toNat (P)) := c89
              refine hr_aln C 2 dX12_layNeed_161 rfl rfl rfl ?_
              refine hr_gA (g := 32) C hr0 TM0 rfl (by decide) fl_X12_110 dX12_layNeed_162 rfl (fun a113 ha114 => ?_)
              refine hr_il C 6 dX12_layNeed_165 rfl rfl ?_
              refine hr_il C 0 dX12_layNeed_167 rfl rfl ?_
              refine hr_ast C ha114 TMa_32 (by omega) (by omega) (by decide) ⟨by omega, by omega⟩ (hp1 (by omega) (by omega)) dX12_layNeed_169 rfl (fun w115 o116 s117 e118 => ?_)
              refine hr_il C 0 dX12_layNeed_170 rfl rfl ?_
              refine hr_aln C 2 dX12_layNeed_172 rfl rfl rfl ?_
              refine hr_gA (g := 32) C hr0 TM0 rfl (by decide) fl_X12_110 dX12_layNeed_173 rfl (fun a119 ha120 => ?_)
              refine hr_il C 6 dX12_layNeed_176 rfl rfl ?_
              refine hr_ald C ha120 TMa_32 (by omega) (by omega) (by decide) dX12_layNeed_178 rfl (fun b121 b122 => ?_)
              have b121 := gp1 b121
              have q123 : vi w115 32 (Int.toNat (P)) = (vi w 32 (Int.toNat (X))) + 1 := by rw [e118, if_pos ⟨rfl, rfl⟩]
              rw [q123] at b121 b122 ⊢
              simp only [rg] at b122
              refine hr_cmp C 199 dX12_layNeed_179 (by decide) ⟨by omega, by omega⟩ ⟨by omega, by omega⟩ rfl (fun c124 => ?_) (fun c124 => ?_)
              · have c124 : ¬ ((vi w 32 (Int.toNat (X))) + 1 : Int) = (vi w 32 (Int.toNat (X))) + 1 := c124
                refine hr_inc (lv' := [(6, zv (v + 1)), (8, zv ((vi w 32 (Int.toNat (X))) + 1)), (7, zv (X)), (0, .ref r), (1, zv (a)), (2, zv (b)), (3, zv (c0)), (4, zv (P)), (5, zv (0))]) C 8 dX12_layNeed_199 rfl (by decide) rfl rfl ?_
                refine hr_goto C 78 dX12_layNeed_202 (by decide) ?_
                refine hr_pick (lv' := [(0, .ref r), (1, zv (a)), (2, zv (b)), (3, zv (c0)), (4, zv (P)), (5, zv (0)), (6, zv (v + 1))]) [3, 4, 5, 6, 7, 8, 0] rfl ?_
                have k1 : vi w115 32 (Int.toNat (P)) = (vi w 32 (Int.toNat (X))) + 1 := by rw [e118, if_pos ⟨rfl, rfl⟩]
                have k2 : ∀ x : Nat, (x : Int) ≠ P → vi w115 32 x = vi w 32 x := by intro x hx; rw [e118, if_neg (by omega)]; rw [e83, if_neg (by omega)]
                have sm2 := (fx_sm_tr (fx_sm_tr sm s82 (by decide)) s117 (by decide))
                exact ih _ _ (by omega) o116 (by omega) (by omega) sm2 (en_sm hwo o116 sm2 (by decide) hen) (fun x hx => (k2 x hx).trans (hkeep x hx)) hnd0 (LN_take hT hP hX (by omega) (by omega) p1 k2 (by omega) hln)
              · have c124 : ((vi w 32 (Int.toNat (X))) + 1 : Int) = (vi w 32 (Int.toNat (X))) + 1 := c124
                refine hr_aln C 2 dX12_layNeed_182 rfl rfl rfl ?_
                refine hr_gA (g := 33) C hr0 TM0 rfl (by decide) fl_X12_113 dX12_layNeed_183 rfl (fun a125 ha126 => ?_)
                refine hr_il C 6 dX12_layNeed_186 rfl rfl ?_
                refine hr_dup2 C dX12_layNeed_188 rfl rfl rfl ?_
                refine hr_ald C ha126 TMa_33 (by omega) (by omega) (by decide) dX12_layNeed_189 rfl (fun b127 b128 => ?_)
                have b127 := gp1 b127
                have q129 : vi w115 33 (Int.toNat (P)) = 0 := by rw [e118, if_neg (by omega)]; rw [e83, if_pos ⟨rfl, rfl⟩]
                rw [q129] at b127 b128 ⊢
                simp only [rg] at b128
                refine hr_aln C 2 dX12_layNeed_190 rfl rfl rfl ?_
                refine hr_gA (g := 33) C hr0 TM0 rfl (by decide) fl_X12_113 dX12_layNeed_191 rfl (fun a130 ha131 => ?_)
                refine hr_il C 1 dX12_layNeed_194 rfl rfl ?_
                refine hr_ald C ha131 TMa_33 (by omega) (by omega) (by decide) dX12_layNeed_196 rfl (fun b132 b133 => ?_)
                have b132 := gp1 b132
                have q134 : vi w115 33 (Int.toNat (X)) = vi w80 33 (Int.toNat (X)) := by rw [e118, if_neg (by omega)]
                rw [q134] at b132 b133 ⊢
                simp only [rg] at b133
                refine hr_add C dX12_layNeed_197 rfl ?_
                obtain ⟨z135, h136, e137, n138⟩ := zv_norm (0 + (vi w80 33 (Int.toNat (X))))
                rw [e137]
                simp only [rg] at h136
                refine hr_ast C ha126 TMa_33 (by omega) (by omega) (by decide) ⟨by omega, by omega⟩ (hp1 (by omega) (by omega)) dX12_layNeed_198 rfl (fun w139 o140 s141 e142 => ?_)
                refine hr_inc (lv' := [(6, zv (v + 1)), (8, zv ((vi w 32 (Int.toNat (X))) + 1)), (7, zv (X)), (0, .ref r), (1, zv (a)), (2, zv (b)), (3, zv (c0)), (4, zv (P)), (5, zv (0))]) C 8 dX12_layNeed_199 rfl (by decide) rfl rfl ?_
                refine hr_goto C 78 dX12_layNeed_202 (by decide) ?_
                refine hr_pick (lv' := [(0, .ref r), (1, zv (a)), (2, zv (b)), (3, zv (c0)), (4, zv (P)), (5, zv (0)), (6, zv (v + 1))]) [3, 4, 5, 6, 7, 8, 0] rfl ?_
                have k1 : vi w139 32 (Int.toNat (P)) = (vi w 32 (Int.toNat (X))) + 1 := by rw [e142, if_neg (by omega)]; rw [e118, if_pos ⟨rfl, rfl⟩]
                have k2 : ∀ x : Nat, (x : Int) ≠ P → vi w139 32 x = vi w 32 x := by intro x hx; rw [e142, if_neg (by omega)]; rw [e118, if_neg (by omega)]; rw [e83, if_neg (by omega)]
                have sm2 := (fx_sm_tr (fx_sm_tr (fx_sm_tr sm s82 (by decide)) s117 (by decide)) s141 (by decide))
                exact ih _ _ (by omega) o140 (by omega) (by omega) sm2 (en_sm hwo o140 sm2 (by decide) hen) (fun x hx => (k2 x hx).trans (hkeep x hx)) hnd0 (LN_take hT hP hX (by omega) (by omega) p1 k2 (by omega) hln)
        · have c12 : (X : Int) = P := c12
          refine hr_goto C 199 dX12_layNeed_115 (by decide) ?_
          refine hr_inc (lv' := [(6, zv (v + 1)), (7, zv (X)), (0, .ref r), (1, zv (a)), (2, zv (b)), (3, zv (c0)), (4, zv (P)), (5, zv (0))]) C 7 dX12_layNeed_199 rfl (by decide) rfl rfl ?_
          refine hr_goto C 78 dX12_layNeed_202 (by decide) ?_
          refine hr_pick (lv' := [(0, .ref r), (1, zv (a)), (2, zv (b)), (3, zv (c0)), (4, zv (P)), (5, zv (0)), (6, zv (v + 1))]) [2, 3, 4, 5, 6, 7, 0] rfl ?_
          exact ih _ _ (by omega) how (by omega) (by omega) sm hen2 hkeep hnd0 (LN_skip (by rw [← hX, ← hP]; omega) hln)
  obtain ⟨n1, n2, n3, n4, n5, n6, n7⟩ := id hen
  refine hr_iln C 1 dX12_layNeed_0 rfl rfl rfl ?_
  refine hr_iln C 2 dX12_layNeed_1 rfl rfl rfl ?_
  refine hr_iln C 3 dX12_layNeed_2 rfl rfl rfl ?_
  refine hr_cS (As := [zv (a), zv (b), zv (c0)]) (rest := []) C (h_place h (a) (b) (c0)) ⟨by decide, by decide⟩ iS_X12_place g_X12_446 dX12_layNeed_3 rfl rfl (Nat.le_of_ble_eq_true rfl) rfl ⟨rfl, trivial⟩ (fun w1 rv o2 q3 => ?_)
  obtain ⟨rfl, rfl⟩ := q3
  refine hr_norm (st' := [zv (plc (a) (b) (c0))]) rfl ?_
  refine hr_norm (st' := [zv (P)]) (by rw [hP]) ?_
  refine hr_is (lv' := [(4, zv (P)), (0, .ref r), (1, zv (a)), (2, zv (b)), (3, zv (c0))]) C dX12_layNeed_6 (by decide) rfl rfl ?_
  refine hr_iln C 2 dX12_layNeed_8 rfl rfl rfl ?_
  refine hr_aln C 1 dX12_layNeed_9 rfl rfl rfl ?_
  refine hr_gI (lo := 0) (hi := 12) C hr0 TM0 rfl fl_X12_384 dX12_layNeed_10 rfl (fun b4 b5 => ?_)
  refine hr_cmp C 36 dX12_layNeed_13 (by decide) ⟨by omega, by omega⟩ ⟨by omega, by omega⟩ rfl (fun c6 => ?_) (fun c6 => ?_)
  · have c6 : ¬ (a : Int) = vi ws 0 45 := c6
    refine hr_ic C dX12_layNeed_36 rfl ?_
    refine hr_is (lv' := [(5, zv (0)), (4, zv (P)), (0, .ref r), (1, zv (a)), (2, zv (b)), (3, zv (c0))]) C dX12_layNeed_37 (by decide) rfl rfl ?_
    refine hr_aln C 2 dX12_layNeed_39 rfl rfl rfl ?_
    refine hr_gA (g := 32) C hr0 TM0 rfl (by decide) fl_X12_110 dX12_layNeed_40 rfl (fun a7 ha8 => ?_)
    refine hr_il C 1 dX12_layNeed_43 rfl rfl ?_
    refine hr_il C 0 dX12_layNeed_45 rfl rfl ?_
    refine hr_if C 54 dX12_layNeed_47 (by decide) ⟨by omega, by omega⟩ rfl (fun c9 => ?_) (fun c9 => absurd (show ¬ (0 : Int) = 0 from c9) (by omega))
    have c9 : (0 : Int) = 0 := c9
    refine hr_si C dX12_layNeed_54 (by decide +kernel) rfl ?_
    refine hr_ast C ha8 TMa_32 (by omega) (by omega) (by decide) ⟨by omega, by omega⟩ (hp1 (by omega) (by omega)) dX12_layNeed_57 rfl (fun w10 o11 s12 e13 => ?_)
    refine hr_aln C 2 dX12_layNeed_58 rfl rfl rfl ?_
    refine hr_gA (g := 33) C hr0 TM0 rfl (by decide) fl_X12_113 dX12_layNeed_59 rfl (fun a14 ha15 => ?_)
    refine hr_il C 1 dX12_layNeed_62 rfl rfl ?_
    refine hr_il C 0 dX12_layNeed_64 rfl rfl ?_
    refine hr_if C 73 dX12_layNeed_66 (by decide) ⟨by omega, by omega⟩ rfl (fun c16 => ?_) (fun c16 => absurd (show ¬ (0 : Int) = 0 from c16) (by omega))
    have c16 : (0 : Int) = 0 := c16
    refine hr_ic C dX12_layNeed_73 rfl ?_
    refine hr_ast C ha15 TMa_33 (by omega) (by omega) (by decide) ⟨by omega, by omega⟩ (hp1 (by omega) (by omega)) dX12_layNeed_74 rfl (fun w17 o18 s19 e20 => ?_)
    refine hr_ic C dX12_layNeed_75 rfl ?_
    refine hr_is (lv' := [(6, zv (0)), (5, zv (0)), (4, zv (P)), (0, .ref r), (1, zv (a)), (2, zv (b)), (3, zv (c0))]) C dX12_layNeed_76 (by decide) rfl rfl ?_
    refine hr_pick (lv' := [(0, .ref r), (1, zv (a)), (2, zv (b)), (3, zv (c0)), (4, zv (P)), (5, zv (0)), (6, zv (0))]) [3, 4, 5, 6, 2, 1, 0] rfl ?_
    have k1 : vi w17 32 (Int.toNat (P)) = 1000 := by rw [e20, if_neg (by omega)]; rw [e13, if_pos ⟨rfl, rfl⟩]
    have k2 : ∀ x : Nat, (x : Int) ≠ P → vi w17 32 x = vi ws 32 x := by intro x hx; rw [e20, if_neg (by omega)]; rw [e13, if_neg (by omega)]
    have sm2 : fx_sm (gsM, TM, cy, fun _ => True) [(1000, 32), (1000, 33)] ws w17 := (fx_sm_tr (fx_sm_tr fx_sm_refl s12 (by decide)) s19 (by decide))
    exact loop _ _ _ (Nat.lt_succ_self _) o18 (by omega) hW0 sm2 (en_sm hwo o18 sm2 (by decide) hen) k2 (by omega) (LN_0 hP k1)
  · have c6 : (a : Int) = vi ws 0 45 := c6
    refine hr_iln C 3 dX12_layNeed_16 rfl rfl rfl ?_
    refine hr_aln C 1 dX12_layNeed_17 rfl rfl rfl ?_
    refine hr_gI (lo := 0) (hi := 12) C hr0 TM0 rfl fl_X12_390 dX12_layNeed_18 rfl (fun b21 b22 => ?_)
    refine hr_cmp C 36 dX12_layNeed_21 (by decide) ⟨by omega, by omega⟩ ⟨by omega, by omega⟩ rfl (fun c23 => ?_) (fun c23 => ?_)
    · have c23 : ¬ (b : Int) = vi ws 0 46 := c23
      refine hr_ic C dX12_layNeed_36 rfl ?_
      refine hr_is (lv' := [(5, zv (0)), (4, zv (P)), (0, .ref r), (1, zv (a)), (2, zv (b)), (3, zv (c0))]) C dX12_layNeed_37 (by decide) rfl rfl ?_
      refine hr_aln C 2 dX12_layNeed_39 rfl rfl rfl ?_
      refine hr_gA (g := 32) C hr0 TM0 rfl (by decide) fl_X12_110 dX12_layNeed_40 rfl (fun a24 ha25 => ?_)
      refine hr_il C 1 dX12_layNeed_43 rfl rfl ?_
      refine hr_il C 0 dX12_layNeed_45 rfl rfl ?_
      refine hr_if C 54 dX12_layNeed_47 (by decide) ⟨by omega, by omega⟩ rfl (fun c26 => ?_) (fun c26 => absurd (show ¬ (0 : Int) = 0 from c26) (by omega))
      have c26 : (0 : Int) = 0 := c26
      refine hr_si C dX12_layNeed_54 (by decide +kernel) rfl ?_
      refine hr_ast C ha25 TMa_32 (by omega) (by omega) (by decide) ⟨by omega, by omega⟩ (hp1 (by omega) (by omega)) dX12_layNeed_57 rfl (fun w27 o28 s29 e30 => ?_)
      refine hr_aln C 2 dX12_layNeed_58 rfl rfl rfl ?_
      refine hr_gA (g := 33) C hr0 TM0 rfl (by decide) fl_X12_113 dX12_layNeed_59 rfl (fun a31 ha32 => ?_)
      refine hr_il C 1 dX12_layNeed_62 rfl rfl ?_
      refine hr_il C 0 dX12_layNeed_64 rfl rfl ?_
      refine hr_if C 73 dX12_layNeed_66 (by decide) ⟨by omega, by omega⟩ rfl (fun c33 => ?_) (fun c33 => absurd (show ¬ (0 : Int) = 0 from c33) (by omega))
      have c33 : (0 : Int) = 0 := c33
      refine hr_ic C dX12_layNeed_73 rfl ?_
      refine hr_ast C ha32 TMa_33 (by omega) (by omega) (by decide) ⟨by omega, by omega⟩ (hp1 (by omega) (by omega)) dX12_layNeed_74 rfl (fun w34 o35 s36 e37 => ?_)
      refine hr_ic C dX12_layNeed_75 rfl ?_
      refine hr_is (lv' := [(6, zv (0)), (5, zv (0)), (4, zv (P)), (0, .ref r), (1, zv (a)), (2, zv (b)), (3, zv (c0))]) C dX12_layNeed_76 (by decide) rfl rfl ?_
      refine hr_pick (lv' := [(0, .ref r), (1, zv (a)), (2, zv (b)), (3, zv (c0)), (4, zv (P)), (5, zv (0)), (6, zv (0))]) [3, 4, 5, 6, 2, 1, 0] rfl ?_
      have k1 : vi w34 32 (Int.toNat (P)) = 1000 := by rw [e37, if_neg (by omega)]; rw [e30, if_pos ⟨rfl, rfl⟩]
      have k2 : ∀ x : Nat, (x : Int) ≠ P → vi w34 32 x = vi ws 32 x := by intro x hx; rw [e37, if_neg (by omega)]; rw [e30, if_neg (by omega)]
      have sm2 : fx_sm (gsM, TM, cy, fun _ => True) [(1000, 32), (1000, 33)] ws w34 := (fx_sm_tr (fx_sm_tr fx_sm_refl s29 (by decide)) s36 (by decide))
      exact loop _ _ _ (Nat.lt_succ_self _) o35 (by omega) hW0 sm2 (en_sm hwo o35 sm2 (by decide) hen) k2 (by omega) (LN_0 hP k1)
    · have c23 : (b : Int) = vi ws 0 46 := c23
      refine hr_iln C 4 dX12_layNeed_24 rfl rfl rfl ?_
      refine hr_aln C 1 dX12_layNeed_25 rfl rfl rfl ?_
      refine hr_gI (lo := 0) (hi := 12) C hr0 TM0 rfl fl_X12_443 dX12_layNeed_26 rfl (fun b38 b39 => ?_)
      refine hr_cmp C 36 dX12_layNeed_29 (by decide) ⟨by omega, by omega⟩ ⟨by omega, by omega⟩ rfl (fun c40 => ?_) (fun c40 => ?_)
      · have c40 : ¬ (c0 : Int) = vi ws 0 47 := c40
        refine hr_ic C dX12_layNeed_36 rfl ?_
        refine hr_is (lv' := [(5, zv (0)), (4, zv (P)), (0, .ref r), (1, zv (a)), (2, zv (b)), (3, zv (c0))]) C dX12_layNeed_37 (by decide) rfl rfl ?_
        refine hr_aln C 2 dX12_layNeed_39 rfl rfl rfl ?_
        refine hr_gA (g := 32) C hr0 TM0 rfl (by decide) fl_X12_110 dX12_layNeed_40 rfl (fun a41 ha42 => ?_)
        refine hr_il C 1 dX12_layNeed_43 rfl rfl ?_
        refine hr_il C 0 dX12_layNeed_45 rfl rfl ?_
        refine hr_if C 54 dX12_layNeed_47 (by decide) ⟨by omega, by omega⟩ rfl (fun c43 => ?_) (fun c43 => absurd (show ¬ (0 : Int) = 0 from c43) (by omega))
        have c43 : (0 : Int) = 0 := c43
        refine hr_si C dX12_layNeed_54 (by decide +kernel) rfl ?_
        refine hr_ast C ha42 TMa_32 (by omega) (by omega) (by decide) ⟨by omega, by omega⟩ (hp1 (by omega) (by omega)) dX12_layNeed_57 rfl (fun w44 o45 s46 e47 => ?_)
        refine hr_aln C 2 dX12_layNeed_58 rfl rfl rfl ?_
        refine hr_gA (g := 33) C hr0 TM0 rfl (by decide) fl_X12_113 dX12_layNeed_59 rfl (fun a48 ha49 => ?_)
        refine hr_il C 1 dX12_layNeed_62 rfl rfl ?_
        refine hr_il C 0 dX12_layNeed_64 rfl rfl ?_
        refine hr_if C 73 dX12_layNeed_66 (by decide) ⟨by omega, by omega⟩ rfl (fun c50 => ?_) (fun c50 => absurd (show ¬ (0 : Int) = 0 from c50) (by omega))
        have c50 : (0 : Int) = 0 := c50
        refine hr_ic C dX12_layNeed_73 rfl ?_
        refine hr_ast C ha49 TMa_33 (by omega) (by omega) (by decide) ⟨by omega, by omega⟩ (hp1 (by omega) (by omega)) dX12_layNeed_74 rfl (fun w51 o52 s53 e54 => ?_)
        refine hr_ic C dX12_layNeed_75 rfl ?_
        refine hr_is (lv' := [(6, zv (0)), (5, zv (0)), (4, zv (P)), (0, .ref r), (1, zv (a)), (2, zv (b)), (3, zv (c0))]) C dX12_layNeed_76 (by decide) rfl rfl ?_
        refine hr_pick (lv' := [(0, .ref r), (1, zv (a)), (2, zv (b)), (3, zv (c0)), (4, zv (P)), (5, zv (0)), (6, zv (0))]) [3, 4, 5, 6, 2, 1, 0] rfl ?_
        have k1 : vi w51 32 (Int.toNat (P)) = 1000 := by rw [e54, if_neg (by omega)]; rw [e47, if_pos ⟨rfl, rfl⟩]
        have k2 : ∀ x : Nat, (x : Int) ≠ P → vi w51 32 x = vi ws 32 x := by intro x hx; rw [e54, if_neg (by omega)]; rw [e47, if_neg (by omega)]
        have sm2 : fx_sm (gsM, TM, cy, fun _ => True) [(1000, 32), (1000, 33)] ws w51 := (fx_sm_tr (fx_sm_tr fx_sm_refl s46 (by decide)) s53 (by decide))
        exact loop _ _ _ (Nat.lt_succ_self _) o52 (by omega) hW0 sm2 (en_sm hwo o52 sm2 (by decide) hen) k2 (by omega) (LN_0 hP k1)
      · have c40 : (c0 : Int) = vi ws 0 47 := c40
        refine hr_ic C dX12_layNeed_32 rfl ?_
        refine hr_goto C 37 dX12_layNeed_33 (by decide) ?_
        refine hr_is (lv' := [(5, zv (1)), (4, zv (P)), (0, .ref r), (1, zv (a)), (2, zv (b)), (3, zv (c0))]) C dX12_layNeed_37 (by decide) rfl rfl ?_
        refine hr_aln C 2 dX12_layNeed_39 rfl rfl rfl ?_
        refine hr_gA (g := 32) C hr0 TM0 rfl (by decide) fl_X12_110 dX12_layNeed_40 rfl (fun a55 ha56 => ?_)
        refine hr_il C 1 dX12_layNeed_43 rfl rfl ?_
        refine hr_il C 0 dX12_layNeed_45 rfl rfl ?_
        refine hr_if C 54 dX12_layNeed_47 (by decide) ⟨by omega, by omega⟩ rfl (fun c57 => absurd (show (1 : Int) = 0 from c57) (by omega)) (fun c57 => ?_)
        have c57 : ¬ (1 : Int) = 0 := c57
        refine hr_ic C dX12_layNeed_50 rfl ?_
        refine hr_goto C 57 dX12_layNeed_51 (by decide) ?_
        refine hr_ast C ha56 TMa_32 (by omega) (by omega) (by decide) ⟨by omega, by omega⟩ (hp1 (by omega) (by omega)) dX12_layNeed_57 rfl (fun w58 o59 s60 e61 => ?_)
        refine hr_aln C 2 dX12_layNeed_58 rfl rfl rfl ?_
        refine hr_gA (g := 33) C hr0 TM0 rfl (by decide) fl_X12_113 dX12_layNeed_59 rfl (fun a62 ha63 => ?_)
        refine hr_il C 1 dX12_layNeed_62 rfl rfl ?_
        refine hr_il C 0 dX12_layNeed_64 rfl rfl ?_
        refine hr_if C 73 dX12_layNeed_66 (by decide) ⟨by omega, by omega⟩ rfl (fun c64 => absurd (show (1 : Int) = 0 from c64) (by omega)) (fun c64 => ?_)
        have c64 : ¬ (1 : Int) = 0 := c64
        refine hr_ic C dX12_layNeed_69 rfl ?_
        refine hr_goto C 74 dX12_layNeed_70 (by decide) ?_
        refine hr_ast C ha63 TMa_33 (by omega) (by omega) (by decide) ⟨by omega, by omega⟩ (hp1 (by omega) (by omega)) dX12_layNeed_74 rfl (fun w65 o66 s67 e68 => ?_)
        refine hr_ic C dX12_layNeed_75 rfl ?_
        refine hr_is (lv' := [(6, zv (0)), (5, zv (1)), (4, zv (P)), (0, .ref r), (1, zv (a)), (2, zv (b)), (3, zv (c0))]) C dX12_layNeed_76 (by decide) rfl rfl ?_
        refine hr_pick (lv' := [(0, .ref r), (1, zv (a)), (2, zv (b)), (3, zv (c0)), (4, zv (P)), (5, zv (1)), (6, zv (0))]) [3, 4, 5, 6, 2, 1, 0] rfl ?_
        have k1 : vi w65 32 (Int.toNat (P)) = 0 := by rw [e68, if_neg (by omega)]; rw [e61, if_pos ⟨rfl, rfl⟩]
        have k2 : ∀ x : Nat, (x : Int) ≠ P → vi w65 32 x = vi ws 32 x := by intro x hx; rw [e68, if_neg (by omega)]; rw [e61, if_neg (by omega)]
        have sm2 : fx_sm (gsM, TM, cy, fun _ => True) [(1000, 32), (1000, 33)] ws w65 := (fx_sm_tr (fx_sm_tr fx_sm_refl s60 (by decide)) s67 (by decide))
        exact doneK _ o66 sm2 k2 k1
