theorem m_720 : Cond.methodLink RX12 314 yX12_e ∈ wsL_law := in_wsL_law_r31 _ (List.mem_of_getElem? (i := 0) rfl)
theorem m_721 : Cond.instanceMethod yX12_e ∈ wsL_law := in_wsL_law_r31 _ (List.mem_of_getElem? (i := 1) rfl)
theorem m_722 : Cond.selects RX12 yX12_e yX12_e ∈ wsL_law := in_wsL_law_r31 _ (List.mem_of_getElem? (i := 2) rfl)
theorem m_723 : Cond.code yX12_e cX12_e 2 none ∈ wsL_law := in_wsL_law_r31 _ (List.mem_of_getElem? (i := 3) rfl)
theorem m_730 : Cond.methodLink RX12 326 yX12_unit ∈ wsL_law := in_wsL_law_r31 _ (List.mem_of_getElem? (i := 10) rfl)
theorem m_731 : Cond.instanceMethod yX12_unit ∈ wsL_law := in_wsL_law_r31 _ (List.mem_of_getElem? (i := 11) rfl)
theorem m_732 : Cond.selects RX12 yX12_unit yX12_unit ∈ wsL_law := in_wsL_law_r31 _ (List.mem_of_getElem? (i := 12) rfl)
theorem m_733 : Cond.code yX12_unit cX12_unit 7 (some .boolean) ∈ wsL_law := in_wsL_law_r31 _ (List.mem_of_getElem? (i := 13) rfl)
theorem m_742 : Cond.methodLink RX12 329 yX12_behindUnit ∈ wsL_law := in_wsL_law_r31 _ (List.mem_of_getElem? (i := 22) rfl)
theorem m_743 : Cond.instanceMethod yX12_behindUnit ∈ wsL_law := in_wsL_law_r31 _ (List.mem_of_getElem? (i := 23) rfl)
theorem m_744 : Cond.selects RX12 yX12_behindUnit yX12_behindUnit ∈ wsL_law := in_wsL_law_r32 _ (List.mem_of_getElem? (i := 0) rfl)
theorem m_745 : Cond.code yX12_behindUnit cX12_behindUnit 2 (some .boolean) ∈ wsL_law := in_wsL_law_r32 _ (List.mem_of_getElem? (i := 1) rfl)
theorem iV_X12_behindUnit : yX12_behindUnit.cls = RX12 ∧ yX12_behindUnit.cls ≠ "java/lang/invoke/MethodHandle" ∧ yX12_behindUnit.cls ≠ "java/lang/invoke/VarHandle" ∧ (parseMethodDescriptor yX12_behindUnit.desc).map (fun d => d.parameters.length) = some 0 := by decide +kernel
theorem iV_X12_unit : yX12_unit.cls = RX12 ∧ yX12_unit.cls ≠ "java/lang/invoke/MethodHandle" ∧ yX12_unit.cls ≠ "java/lang/invoke/VarHandle" ∧ (parseMethodDescriptor yX12_unit.desc).map (fun d => d.parameters.length) = some 0 := by decide +kernel
theorem iV_X12_e : yX12_e.cls = RX12 ∧ yX12_e.cls ≠ "java/lang/invoke/MethodHandle" ∧ yX12_e.cls ≠ "java/lang/invoke/VarHandle" ∧ (parseMethodDescriptor yX12_e.desc).map (fun d => d.parameters.length) = some 0 := by decide +kernel
theorem g_X12_329 : GoodIn wsL_law (wsV RX12 329 RX12 yX12_behindUnit (.code yX12_behindUnit cX12_behindUnit 2 (some .boolean) :: wsL_law)) := gdV m_742 m_743 m_744 m_5 m_745
theorem g_X12_326 : GoodIn wsL_law (wsV RX12 326 RX12 yX12_unit (.code yX12_unit cX12_unit 7 (some .boolean) :: wsL_law)) := gdV m_730 m_731 m_732 m_5 m_733
theorem g_X12_314 : GoodIn wsL_law (wsV RX12 314 RX12 yX12_e (.code yX12_e cX12_e 2 none :: wsL_law)) := gdV m_720 m_721 m_722 m_5 m_723
theorem dX12_e_19 : decode cX12_e 19 = .ok (.aload_n 0, 1) := by decide +kernel
theorem dX12_e_20 : decode cX12_e 20 = .ok (.invokevirtual 241, 3) := by decide +kernel
theorem dX12_e_23 : decode cX12_e 23 = .ok (.ifCond .eq 29, 3) := by decide +kernel
theorem dX12_e_26 : decode cX12_e 26 = .ok (.aload_n 0, 1) := by decide +kernel
theorem dX12_e_27 : decode cX12_e 27 = .ok (.getfield 317, 3) := by decide +kernel
theorem dX12_e_30 : decode cX12_e 30 = .ok (.ifCond .le 22, 3) := by decide +kernel
theorem dX12_e_52 : decode cX12_e 52 = .ok (.return_, 1) := by decide +kernel
theorem dX12_e_33 : decode cX12_e 33 = .ok (.iload_n 1, 1) := by decide +kernel
theorem dX12_e_34 : decode cX12_e 34 = .ok (.ifCond .eq 10, 3) := by decide +kernel
theorem dX12_e_44 : decode cX12_e 44 = .ok (.aload_n 0, 1) := by decide +kernel
theorem dX12_e_45 : decode cX12_e 45 = .ok (.invokevirtual 329, 3) := by decide +kernel
theorem dX12_e_48 : decode cX12_e 48 = .ok (.istore_n 1, 1) := by decide +kernel
theorem dX12_e_49 : decode cX12_e 49 = .ok (.goto (-30), 3) := by decide +kernel
theorem dX12_e_37 : decode cX12_e 37 = .ok (.aload_n 0, 1) := by decide +kernel
theorem dX12_e_38 : decode cX12_e 38 = .ok (.invokevirtual 326, 3) := by decide +kernel
theorem dX12_e_41 : decode cX12_e 41 = .ok (.goto 7, 3) := by decide +kernel
theorem dX12_e_0 : decode cX12_e 0 = .ok (.aload_n 0, 1) := by decide +kernel
theorem dX12_e_1 : decode cX12_e 1 = .ok (.iconst 0, 1) := by decide +kernel
theorem dX12_e_2 : decode cX12_e 2 = .ok (.putfield 317, 3) := by decide +kernel
theorem dX12_e_5 : decode cX12_e 5 = .ok (.aload_n 0, 1) := by decide +kernel
theorem dX12_e_6 : decode cX12_e 6 = .ok (.iconst 0, 1) := by decide +kernel
theorem dX12_e_7 : decode cX12_e 7 = .ok (.putfield 320, 3) := by decide +kernel
theorem dX12_e_10 : decode cX12_e 10 = .ok (.aload_n 0, 1) := by decide +kernel
theorem dX12_e_11 : decode cX12_e 11 = .ok (.bipush 8, 2) := by decide +kernel
theorem dX12_e_13 : decode cX12_e 13 = .ok (.iconst 0, 1) := by decide +kernel
theorem dX12_e_14 : decode cX12_e 14 = .ok (.invokevirtual 323, 3) := by decide +kernel
theorem dX12_e_17 : decode cX12_e 17 = .ok (.iconst 1, 1) := by decide +kernel
theorem dX12_e_18 : decode cX12_e 18 = .ok (.istore_n 1, 1) := by decide +kernel
theorem dX12_readRule_0 : decode cX12_readRule 0 = .ok (.aload_n 0, 1) := by decide +kernel
theorem dX12_readRule_1 : decode cX12_readRule 1 = .ok (.iconst 0, 1) := by decide +kernel
theorem dX12_readRule_2 : decode cX12_readRule 2 = .ok (.putfield 311, 3) := by decide +kernel
theorem dX12_readRule_5 : decode cX12_readRule 5 = .ok (.aload_n 0, 1) := by decide +kernel
theorem dX12_readRule_6 : decode cX12_readRule 6 = .ok (.getfield 57, 3) := by decide +kernel
theorem dX12_readRule_9 : decode cX12_readRule 9 = .ok (.aload_n 0, 1) := by decide +kernel
theorem dX12_readRule_10 : decode cX12_readRule 10 = .ok (.getfield 265, 3) := by decide +kernel
theorem dX12_readRule_13 : decode cX12_readRule 13 = .ok (.iload_n 1, 1) := by decide +kernel
theorem dX12_readRule_14 : decode cX12_readRule 14 = .ok (.iadd, 1) := by decide +kernel
theorem dX12_readRule_15 : decode cX12_readRule 15 = .ok (.aload_n 0, 1) := by decide +kernel
theorem dX12_readRule_16 : decode cX12_readRule 16 = .ok (.getfield 268, 3) := by decide +kernel
theorem dX12_readRule_19 : decode cX12_readRule 19 = .ok (.iastore, 1) := by decide +kernel
theorem dX12_readRule_20 : decode cX12_readRule 20 = .ok (.aload_n 0, 1) := by decide +kernel
theorem dX12_readRule_21 : decode cX12_readRule 21 = .ok (.invokevirtual 314, 3) := by decide +kernel
theorem dX12_readRule_24 : decode cX12_readRule 24 = .ok (.aload_n 0, 1) := by decide +kernel
theorem dX12_readRule_25 : decode cX12_readRule 25 = .ok (.getfield 60, 3) := by decide +kernel
theorem dX12_readRule_28 : decode cX12_readRule 28 = .ok (.aload_n 0, 1) := by decide +kernel
theorem dX12_readRule_29 : decode cX12_readRule 29 = .ok (.getfield 265, 3) := by decide +kernel
theorem dX12_readRule_32 : decode cX12_readRule 32 = .ok (.iload_n 1, 1) := by decide +kernel
theorem dX12_readRule_33 : decode cX12_readRule 33 = .ok (.iadd, 1) := by decide +kernel
theorem dX12_readRule_34 : decode cX12_readRule 34 = .ok (.aload_n 0, 1) := by decide +kernel
theorem dX12_readRule_35 : decode cX12_readRule 35 = .ok (.getfield 268, 3) := by decide +kernel
theorem dX12_readRule_38 : decode cX12_readRule 38 = .ok (.iastore, 1) := by decide +kernel
theorem dX12_readRule_39 : decode cX12_readRule 39 = .ok (.return_, 1) := by decide +kernel
def WE (w : va_W) (f : Nat) : Prop := wfc (vi w 21) f (vi w 0 36).toNat ∧ (f : Int) ≤ vi w 0 36 ∧ vi w 0 36 ≤ f + 560
theorem EI_b {w : va_W} {f : Nat} {m : Int} (h : EI w f m) : (1 ≤ vi w 0 38 ∧ vi w 0 38 ≤ 60) ∧ (0 ≤ vi w 0 37 ∧ vi w 0 37 ≤ 7) ∧ (0 ≤ vi w 0 39 ∧ vi w 0 39 ≤ 30) := by
  unfold EI at h
  obtain ⟨⟨p1, p2, p3⟩, q1, q2, ⟨w1, w2⟩, ⟨u1, u2⟩, f1, ⟨d1, d2⟩, k1, wf⟩ := h
  have cb1 := cn_b (q := q37) (e := vi w 23) (vi w 0 38).toNat
  exact ⟨⟨p1, p2⟩, ⟨by omega, w2⟩, ⟨u1, u2⟩⟩
theorem EI_WE {w : va_W} {f : Nat} {m : Int} (hm : m = 0 ∨ m = 1) (h : EI w f m) : WE w f := by
  unfold EI at h
  obtain ⟨⟨p1, p2, p3⟩, q1, q2, ⟨w1, w2⟩, ⟨u1, u2⟩, f1, ⟨d1, d2⟩, k1, wf⟩ := h
  have cb1 := cn_b (q := q37) (e := vi w 23) (vi w 0 38).toNat
  have cb2 := cn_b (q := q3) (e := vi w 23) (vi w 0 38).toNat
  refine ⟨wf, f1, ?_⟩
  rcases hm with rfl | rfl <;> omega
theorem WE_c {w w' : va_W} {f : Nat} (h36 : vi w' 0 36 = vi w 0 36) (a21 : ∀ j, vi w' 21 j = vi w 21 j) (h : WE w f) : WE w' f := by
  have e : vi w' 21 = vi w 21 := funext a21
  unfold WE at h ⊢
  rw [e, h36]
  exact h
theorem EI_start {w : va_W} {f : Nat} (h36 : vi w 0 36 = f) (h37 : vi w 0 37 = 0) (h38 : vi w 0 38 = 1) (h39 : vi w 0 39 = 0) (h0 : vi w 23 0 = 8) : EI w f 0 := by
  have e1 : (vi w 0 38).toNat = 1 := by omega
  have e2 : (vi w 0 36).toNat = f := by omega
  unfold EI
  rw [e1, e2, h36, h37, h38, h39, Nat.sub_self]
  refine ⟨⟨by omega, by omega, h0⟩, fun j h1 h2 => by omega, fun j h1 h2 => by omega, ⟨by simp [cn], by omega⟩, ⟨by omega, by omega⟩, by omega, ⟨by simp [dep], by simp [dep]⟩, by simp [cn, dep], fun n hn => by omega⟩
set_option maxRecDepth 100000 in
set_option maxHeartbeats 4000000 in
theorem h_e {l : Launch} {E : (Nat → Prop) → State → Prop} {ad : List Nat} {D : va_G} {cy : Nat → ClassId} (h : fx_env E D classes (tys cy) nestW) (r f : Nat) (hr0 : ad[0]? = some r) (hf : f ≤ 560) : hM l yX12_e cX12_e 2 none ({ frames := 4, cells := 0, slots := 0, locals := 86 }) E ad D cy (fun av ws => av = [.ref r] ∧ vi ws 0 36 = f ∧ vi ws 0 39 = 0 ∧ vi ws 0 7 ≤ 1600) (fun _ ws rv ws1 => fx_sm (gsM, TM, cy, fun _ => True) [(12, 4), (12, 5), (12, 6), (12, 7), (12, 8), (12, 9), (12, 10), (12, 36), (12, 37), (12, 38), (12, 39), (1000, 6), (1000, 21), (1000, 22), (1000, 23), (1000, 24)] ws ws1 ∧ rv = none ∧ vi ws1 0 7 ≤ 1600 ∧ FRc ws ws1 f ∧ WE ws1 f) := by
  refine hM_of h (by decide) ?_
  intro av ws p e s m below meth c hwo hnd hpre hlocks hr C
  obtain ⟨rfl, hpre⟩ := hpre
  refine ⟨Nat.le_of_ble_eq_true rfl, ?_⟩
  refine hr_pick (lv' := [(0, .ref r)]) [0] rfl ?_
  obtain ⟨h36, h39, he⟩ := hpre
  have done : ∀ (b : Int) (w : va_W), fx_wo (gsM, TM, cy, fun _ => True) ad w → fx_sm (gsM, TM, cy, fun _ => True) [(12, 4), (12, 5), (12, 6), (12, 7), (12, 8), (12, 9), (12, 10), (12, 36), (12, 37), (12, 38), (12, 39), (1000, 6), (1000, 21), (1000, 22), (1000, 23), (1000, 24)] ws w → vi w 0 7 ≤ 1600 → FRc ws w f → (b = 0 ∨ b = 1) → (1 ≤ vi w 0 4 ∨ vi w 0 38 = 0) → WE w f → HW l E ad D cy (va_A ws s.heap.size) s.heap p e ({ frames := 4, cells := 0, slots := 0, locals := 86 }) s m ([.ref r]).toArray below meth c (MQ below (hQ ad D cy (fun _ ws rv ws1 => fx_sm (gsM, TM, cy, fun _ => True) [(12, 4), (12, 5), (12, 6), (12, 7), (12, 8), (12, 9), (12, 10), (12, 36), (12, 37), (12, 38), (12, 39), (1000, 6), (1000, 21), (1000, 22), (1000, 23), (1000, 24)] ws ws1 ∧ rv = none ∧ vi ws1 0 7 ≤ 1600 ∧ FRc ws ws1 f ∧ WE ws1 f) ([.ref r]) ws s.heap.size) ([.ref r]).toArray s 0 0 (va_A ws s.heap.size)) cX12_e 2 yX12_e.cls 19 [(0, .ref r), (1, zv b)] [] w := by
    intro b w how sm he hfr hb hg we
    refine hr_aln C 0 dX12_e_19 rfl rfl rfl ?_
    refine hr_cV (As := []) (rest := []) C (hM_fx (km293 h)) ⟨by decide, by decide⟩ iV_X12_isGood g_X12_241 TM0 hr0 dX12_e_20 rfl rfl (Nat.le_of_ble_eq_true rfl) rfl ⟨(ty_cons (ok_r hr0 (by decide) (by decide)) ty_nil), ⟨_, rfl⟩⟩ (fun w1 rv o2 q3 => ?_)
    obtain ⟨s4, po, hpo5, hrv6, hty7, rt, hfs8⟩ := q3
    replace s4 : fx_sm (gsM, TM, cy, fun _ => True) [] w w1 := s4
    simp only [km293_c, List.mem_cons, List.not_mem_nil, or_false] at hpo5
    rcases hpo5 with rfl | rfl
    · obtain ⟨v9, rfl, hv10⟩ := hrv6
      obtain ⟨z11, rfl, b12, b13, b14⟩ := ok_iz hv10
      simp only [rg] at b14
      obtain rfl : z11 = 1 := by omega
      have hf15 := fs_t hnd o2 hr0 rfl hfs8
      refine hr_norm (st' := [zv (1)]) rfl ?_
      refine hr_if C 52 dX12_e_23 (by decide) ⟨by omega, by omega⟩ rfl (fun c16 => absurd (show (1 : Int) = 0 from c16) (by omega)) (fun c16 => ?_)
      have c16 : ¬ (1 : Int) = 0 := c16
      have h4 : vi w1 0 4 = vi w 0 4 := (by rw [sm_f how o2 s4 (by decide)])
      have h8 : vi w 0 38 = 0 := by omega
      refine hr_aln C 0 dX12_e_26 rfl rfl rfl ?_
      refine hr_gI (lo := 0) (hi := 90) C hr0 TM0 rfl fl_X12_317 dX12_e_27 rfl (fun b17 b18 => ?_)
      have q19 : vi w1 0 38 = vi w 0 38 := by rw [sm_f how o2 s4 (by decide)]
      rw [q19] at b17 b18 ⊢
      refine hr_if C 52 dX12_e_30 (by decide) ⟨by omega, by omega⟩ rfl (fun c20 => ?_) (fun c20 => ?_)
      · have c20 : (vi w 0 38 : Int) ≤ 0 := c20
        exact hr_vret C hlocks hr dX12_e_52 ⟨(fx_sm_tr sm s4 (by decide)), rfl, (by rw [sm_f how o2 s4 (by decide)]; omega), FRc_tr hfr (FRc_eq (fun j => (by rw [sm_a how o2 s4 TMa_21 (by decide)]))), WE_c (w := w) (by rw [sm_f how o2 s4 (by decide)]) (fun j => (by rw [sm_a how o2 s4 TMa_21 (by decide)])) we⟩
      · have c20 : (0 : Int) < vi w 0 38 := c20
        exfalso
        omega
    · obtain ⟨v21, rfl, hv22⟩ := hrv6
      obtain ⟨z23, rfl, b24, b25, b26⟩ := ok_iz hv22
      simp only [rg] at b26
      obtain rfl : z23 = 0 := by omega
      have hf27 := fs_t hnd o2 hr0 rfl hfs8
      refine hr_norm (st' := [zv (0)]) rfl ?_
      refine hr_if C 52 dX12_e_23 (by decide) ⟨by omega, by omega⟩ rfl (fun c28 => ?_) (fun c28 => absurd (show ¬ (0 : Int) = 0 from c28) (by omega))
      have c28 : (0 : Int) = 0 := c28
      exact hr_vret C hlocks hr dX12_e_52 ⟨(fx_sm_tr sm s4 (by decide)), rfl, (by rw [sm_f how o2 s4 (by decide)]; omega), FRc_tr hfr (FRc_eq (fun j => (by rw [sm_a how o2 s4 TMa_21 (by decide)]))), WE_c (w := w) (by rw [sm_f how o2 s4 (by decide)]) (fun j => (by rw [sm_a how o2 s4 TMa_21 (by decide)])) we⟩
  have loop : ∀ (q : Nat) (b : Int) (w : va_W), (b = 1 → ((30 - vi w 0 39) * 200 + 7 - vi w 0 37).toNat < q) → (b = 0 → ((30 - vi w 0 39) * 200 + 100 + vi w 0 38).toNat < q) → fx_wo (gsM, TM, cy, fun _ => True) ad w → fx_sm (gsM, TM, cy, fun _ => True) [(12, 4), (12, 5), (12, 6), (12, 7), (12, 8), (12, 9), (12, 10), (12, 36), (12, 37), (12, 38), (12, 39), (1000, 6), (1000, 21), (1000, 22), (1000, 23), (1000, 24)] ws w → vi w 0 7 ≤ 1600 → FRc ws w f → (b = 0 ∨ b = 1) → EI w f (1 - b) → HW l E ad D cy (va_A ws s.heap.size) s.heap p e ({ frames := 4, cells := 0, slots := 0, locals := 86 }) s m ([.ref r]).toArray below meth c (MQ below (hQ ad D cy (fun _ ws rv ws1 => fx_sm (gsM, TM, cy, fun _ => True) [(12, 4), (12, 5), (12, 6), (12, 7), (12, 8), (12, 9), (12, 10), (12, 36), (12, 37), (12, 38), (12, 39), (1000, 6), (1000, 21), (1000, 22), (1000, 23), (1000, 24)] ws ws1 ∧ rv = none ∧ vi ws1 0 7 ≤ 1600 ∧ FRc ws ws1 f ∧ WE ws1 f) ([.ref r]) ws s.heap.size) ([.ref r]).toArray s 0 0 (va_A ws s.heap.size)) cX12_e 2 yX12_e.cls 19 [(0, .ref r), (1, zv b)] [] w := by
    intro q
    induction q with
    | zero => intro b w hq1 hq2 _ _ _ _ hb _; exfalso; rcases hb with h | h; exact Nat.not_lt_zero _ (hq2 h); exact Nat.not_lt_zero _ (hq1 h)
    | succ q ih =>
      intro b w hq1 hq2 how sm he hfr hb ei
      have eb := EI_b ei
      have we := EI_WE (by omega) ei
      refine hr_aln C 0 dX12_e_19 rfl rfl rfl ?_
      refine hr_cV (As := []) (rest := []) C (hM_fx (km293 h)) ⟨by decide, by decide⟩ iV_X12_isGood g_X12_241 TM0 hr0 dX12_e_20 rfl rfl (Nat.le_of_ble_eq_true rfl) rfl ⟨(ty_cons (ok_r hr0 (by decide) (by decide)) ty_nil), ⟨_, rfl⟩⟩ (fun w1 rv o2 q3 => ?_)
      obtain ⟨s4, po, hpo5, hrv6, hty7, rt, hfs8⟩ := q3
      replace s4 : fx_sm (gsM, TM, cy, fun _ => True) [] w w1 := s4
      simp only [km293_c, List.mem_cons, List.not_mem_nil, or_false] at hpo5
      rcases hpo5 with rfl | rfl
      · obtain ⟨v9, rfl, hv10⟩ := hrv6
        obtain ⟨z11, rfl, b12, b13, b14⟩ := ok_iz hv10
        simp only [rg] at b14
        obtain rfl : z11 = 1 := by omega
        have hf15 := fs_t hnd o2 hr0 rfl hfs8
        refine hr_norm (st' := [zv (1)]) rfl ?_
        refine hr_if C 52 dX12_e_23 (by decide) ⟨by omega, by omega⟩ rfl (fun c16 => absurd (show (1 : Int) = 0 from c16) (by omega)) (fun c16 => ?_)
        have c16 : ¬ (1 : Int) = 0 := c16
        refine hr_aln C 0 dX12_e_26 rfl rfl rfl ?_
        refine hr_gI (lo := 0) (hi := 90) C hr0 TM0 rfl fl_X12_317 dX12_e_27 rfl (fun b17 b18 => ?_)
        have q19 : vi w1 0 38 = vi w 0 38 := by rw [sm_f how o2 s4 (by decide)]
        rw [q19] at b17 b18 ⊢
        refine hr_if C 52 dX12_e_30 (by decide) ⟨by omega, by omega⟩ rfl (fun c20 => ?_) (fun c20 => ?_)
        · have c20 : (vi w 0 38 : Int) ≤ 0 := c20
          exact hr_vret C hlocks hr dX12_e_52 ⟨(fx_sm_tr sm s4 (by decide)), rfl, (by rw [sm_f how o2 s4 (by decide)]; omega), FRc_tr hfr (FRc_eq (fun j => (by rw [sm_a how o2 s4 TMa_21 (by decide)]))), WE_c (w := w) (by rw [sm_f how o2 s4 (by decide)]) (fun j => (by rw [sm_a how o2 s4 TMa_21 (by decide)])) we⟩
        · have c20 : (0 : Int) < vi w 0 38 := c20
          refine hr_iln C 1 dX12_e_33 rfl rfl rfl ?_
          refine hr_if C 44 dX12_e_34 (by decide) ⟨by omega, by omega⟩ rfl (fun c21 => ?_) (fun c21 => ?_)
          · have c21 : (b : Int) = 0 := c21
            refine hr_aln C 0 dX12_e_44 rfl rfl rfl ?_
            have ei1 : EI w f 1 := by
              have hb1 : b = 0 := by omega
              subst hb1
              exact ei
            have g37 : vi w1 0 37 = vi w 0 37 := (by rw [sm_f how o2 s4 (by decide)])
            have g38 : vi w1 0 38 = vi w 0 38 := (by rw [sm_f how o2 s4 (by decide)])
            have g39 : vi w1 0 39 = vi w 0 39 := (by rw [sm_f how o2 s4 (by decide)])
            refine hr_cV (As := []) (rest := []) C (h_behindUnit h r f hr0 hf) ⟨by decide, by decide⟩ iV_X12_behindUnit g_X12_329 TM0 hr0 dX12_e_45 rfl rfl (Nat.le_of_ble_eq_true rfl) rfl ⟨rfl, (EI_fr how o2 s4 (by decide) ei1), (by rw [sm_f how o2 s4 (by decide)]; omega)⟩ (fun w22 rv o23 q24 => ?_)
            obtain ⟨s25, he2, fr2, h39b, z, rfl, hbu⟩ := q24
            have hz : z = 0 ∨ z = 1 := by rcases hbu with ⟨h, -⟩ | ⟨h, -⟩ | ⟨h, -⟩ <;> omega
            refine hr_norm (st' := [zv (z)]) rfl ?_
            refine hr_isn (lv' := [(1, zv (z)), (0, .ref r)]) C dX12_e_48 rfl (by decide) rfl rfl ?_
            refine hr_goto C 19 dX12_e_49 (by decide) ?_
            refine hr_pick (lv' := [(0, .ref r), (1, zv (z))]) [1, 0] rfl ?_
            rcases hbu with ⟨rfl, hg, ei2⟩ | ⟨rfl, ei2⟩ | ⟨rfl, hlt, ei2 | ⟨hp0, hwe⟩⟩
            · exact done _ _ o23 (fx_sm_tr (fx_sm_tr sm s4 (by decide)) s25 (by decide)) he2 (FRc_tr (FRc_tr hfr (FRc_eq (fun j => (by rw [sm_a how o2 s4 TMa_21 (by decide)])))) fr2) hz (Or.inl hg) (EI_WE (by omega) ei2)
            · have eb2 := EI_b ei2
              exact ih _ _ (fun h => by omega) (fun h => by omega) o23 (fx_sm_tr (fx_sm_tr sm s4 (by decide)) s25 (by decide)) he2 (FRc_tr (FRc_tr hfr (FRc_eq (fun j => (by rw [sm_a how o2 s4 TMa_21 (by decide)])))) fr2) hz (by show EI _ f 0; exact ei2)
            · have eb2 := EI_b ei2
              exact ih _ _ (fun h => by omega) (fun h => by omega) o23 (fx_sm_tr (fx_sm_tr sm s4 (by decide)) s25 (by decide)) he2 (FRc_tr (FRc_tr hfr (FRc_eq (fun j => (by rw [sm_a how o2 s4 TMa_21 (by decide)])))) fr2) hz (by show EI _ f 1; exact ei2)
            · exact done _ _ o23 (fx_sm_tr (fx_sm_tr sm s4 (by decide)) s25 (by decide)) he2 (FRc_tr (FRc_tr hfr (FRc_eq (fun j => (by rw [sm_a how o2 s4 TMa_21 (by decide)])))) fr2) hz (Or.inr hp0) hwe
          · have c21 : ¬ (b : Int) = 0 := c21
            refine hr_aln C 0 dX12_e_37 rfl rfl rfl ?_
            have ei1 : EI w f 0 := by
              have hb1 : b = 1 := by omega
              subst hb1
              exact ei
            have g37 : vi w1 0 37 = vi w 0 37 := (by rw [sm_f how o2 s4 (by decide)])
            have g38 : vi w1 0 38 = vi w 0 38 := (by rw [sm_f how o2 s4 (by decide)])
            have g39 : vi w1 0 39 = vi w 0 39 := (by rw [sm_f how o2 s4 (by decide)])
            refine hr_cV (As := []) (rest := []) C (h_unit h r f hr0 hf) ⟨by decide, by decide⟩ iV_X12_unit g_X12_326 TM0 hr0 dX12_e_38 rfl rfl (Nat.le_of_ble_eq_true rfl) rfl ⟨rfl, (EI_fr how o2 s4 (by decide) ei1), (by rw [sm_f how o2 s4 (by decide)]; omega)⟩ (fun w26 rv o27 q28 => ?_)
            obtain ⟨s29, ⟨z, rfl, hz, ei2, hm⟩, he2, fr2⟩ := q28
            have eb2 := EI_b ei2
            refine hr_norm (st' := [zv (z)]) rfl ?_
            refine hr_goto C 48 dX12_e_41 (by decide) ?_
            refine hr_isn (lv' := [(1, zv (z)), (0, .ref r)]) C dX12_e_48 rfl (by decide) rfl rfl ?_
            refine hr_goto C 19 dX12_e_49 (by decide) ?_
            refine hr_pick (lv' := [(0, .ref r), (1, zv (z))]) [1, 0] rfl ?_
            by_cases hg : 1 ≤ vi w26 0 4
            · exact done _ _ o27 (fx_sm_tr (fx_sm_tr sm s4 (by decide)) s29 (by decide)) he2 (FRc_tr (FRc_tr hfr (FRc_eq (fun j => (by rw [sm_a how o2 s4 TMa_21 (by decide)])))) fr2) hz (Or.inl hg) (EI_WE (by omega) ei2)
            · exact ih _ _ (fun h => by omega) (fun h => by omega) o27 (fx_sm_tr (fx_sm_tr sm s4 (by decide)) s29 (by decide)) he2 (FRc_tr (FRc_tr hfr (FRc_eq (fun j => (by rw [sm_a how o2 s4 TMa_21 (by decide)])))) fr2) hz ei2
      · obtain ⟨v30, rfl, hv31⟩ := hrv6
        obtain ⟨z32, rfl, b33, b34, b35⟩ := ok_iz hv31
        simp only [rg] at b35
        obtain rfl : z32 = 0 := by omega
        have hf36 := fs_t hnd o2 hr0 rfl hfs8
        refine hr_norm (st' := [zv (0)]) rfl ?_
        refine hr_if C 52 dX12_e_23 (by decide) ⟨by omega, by omega⟩ rfl (fun c37 => ?_) (fun c37 => absurd (show ¬ (0 : Int) = 0 from c37) (by omega))
        have c37 : (0 : Int) = 0 := c37
        exact hr_vret C hlocks hr dX12_e_52 ⟨(fx_sm_tr sm s4 (by decide)), rfl, (by rw [sm_f how o2 s4 (by decide)]; omega), FRc_tr hfr (FRc_eq (fun j => (by rw [sm_a how o2 s4 TMa_21 (by decide)]))), WE_c (w := w) (by rw [sm_f how o2 s4 (by decide)]) (fun j => (by rw [sm_a how o2 s4 TMa_21 (by decide)])) we⟩
  refine hr_aln C 0 dX12_e_0 rfl rfl rfl ?_
  refine hr_ic C dX12_e_1 rfl ?_
  refine hr_pI (lo := 0) (hi := 90) C hr0 TM0 rfl ⟨by decide, by decide⟩ pl_X12_317 dX12_e_2 (by omega) (by omega) rfl (fun w1 o2 s3 e4 => ?_)
  refine hr_aln C 0 dX12_e_5 rfl rfl rfl ?_
  refine hr_ic C dX12_e_6 rfl ?_
  refine hr_pI (lo := -2147483648) (hi := 2147483647) C hr0 TM0 rfl ⟨by decide, by decide⟩ pl_X12_320 dX12_e_7 (by omega) (by omega) rfl (fun w5 o6 s7 e8 => ?_)
  refine hr_aln C 0 dX12_e_10 rfl rfl rfl ?_
  refine hr_bi C dX12_e_11 (by decide +kernel) rfl ?_
  refine hr_ic C dX12_e_13 rfl ?_
  refine hr_cV (As := [zv (8), zv (0)]) (rest := []) C (h_pushE h r (8) (0) hr0 ⟨by omega, by omega⟩ ⟨by omega, by omega⟩) ⟨by decide, by decide⟩ iV_X12_pushE g_X12_323 TM0 hr0 dX12_e_14 rfl rfl (Nat.le_of_ble_eq_true rfl) rfl ⟨rfl, by rw [e8, if_neg (by omega)]; rw [e4, if_pos ⟨rfl, rfl⟩]; omega⟩ (fun w9 rv o10 q11 => ?_)
  obtain ⟨s12, rfl, e13, e14, e15⟩ := q11
  refine hr_norm (st' := []) rfl ?_
  refine hr_ic C dX12_e_17 rfl ?_
  refine hr_isn (lv' := [(1, zv (1)), (0, .ref r)]) C dX12_e_18 rfl (by decide) rfl rfl ?_
  refine hr_pick (lv' := [(0, .ref r), (1, zv (1))]) [1, 0] rfl ?_
  have ei : EI w9 f 0 := EI_start ((show vi w9 0 36 = vi ws 0 36 from (by rw [sm_f o6 o10 s12 (by decide)]; rw [e8, if_neg (by omega)]; rw [e4, if_neg (by omega)])).trans h36) (by rw [sm_f o6 o10 s12 (by decide)]; rw [e8, if_pos ⟨rfl, rfl⟩]) (by rw [e13]; rw [e8, if_neg (by omega)]; rw [e4, if_pos ⟨rfl, rfl⟩]; rfl) ((show vi w9 0 39 = vi ws 0 39 from (by rw [sm_f o6 o10 s12 (by decide)]; rw [e8, if_neg (by omega)]; rw [e4, if_neg (by omega)])).trans h39) (by rw [e14]; rw [show vi w5 0 38 = 0 from (by rw [e8, if_neg (by omega)]; rw [e4, if_pos ⟨rfl, rfl⟩])]; rfl)
  exact loop _ 1 _ (fun _ => Nat.lt_succ_self _) (fun h => by omega) o10 (fx_sm_tr (fx_sm_tr (fx_sm_tr fx_sm_refl s3 (by decide)) s7 (by decide)) s12 (by decide)) (by rw [sm_f o6 o10 s12 (by decide)]; rw [e8, if_neg (by omega)]; rw [e4, if_neg (by omega)]; omega) (FRc_eq (fun j => (by rw [sm_a o6 o10 s12 TMa_21 (by decide)]; rw [e8, if_neg (by omega)]; rw [e4, if_neg (by omega)]))) (Or.inr rfl) (by show EI _ f 0; exact ei)
set_option maxRecDepth 100000 in
set_option maxHeartbeats 4000000 in
theorem h_readRule {l : Launch} {E : (Nat → Prop) → State → Prop} {ad : List Nat} {D : va_G} {cy : Nat → ClassId} (h : fx_env E D classes (tys cy) nestW) (r f : Nat) (hr0 : ad[0]? = some r) (hf : f ≤ 560) : hM l yX12_readRule cX12_readRule 2 none ({ frames := 5, cells := 0, slots := 0, locals := 107 }) E ad D cy (fun av ws => av = [.ref r, zv 0] ∧ vi ws 0 36 = f ∧ vi ws 0 7 ≤ 1600) (fun _ ws rv ws1 => fx_sm (gsM, TM, cy, fun _ => True) [(12, 4), (12, 5), (12, 6), (12, 7), (12, 8), (12, 9), (12, 10), (12, 36), (12, 37), (12, 38), (12, 39), (1000, 6), (1000, 21), (1000, 22), (1000, 23), (1000, 24), (1000, 15), (1000, 16)] ws ws1 ∧ rv = none ∧ vi ws1 0 7 ≤ 1600 ∧ FRc ws ws1 f ∧ WE ws1 f ∧ (∀ j : Nat, vi ws1 15 j = if j = (vi ws 0 35).toNat then (f : Int) else vi ws 15 j) ∧ (∀ j : Nat, vi ws1 16 j = if j = (vi ws 0 35).toNat then vi ws1 0 36 else vi ws 16 j)) := by
  refine hM_of h (by decide) ?_
  intro av ws p e s m below meth c hwo hnd hpre hlocks hr C
  obtain ⟨rfl, hpre⟩ := hpre
  refine ⟨Nat.le_of_ble_eq_true rfl, ?_⟩
  refine hr_pick (lv' := [(0, .ref r), (1, zv 0)]) [0, 1] rfl ?_
  obtain ⟨h36, he⟩ := hpre
  refine hr_aln C 0 dX12_readRule_0 rfl rfl rfl ?_
  refine hr_ic C dX12_readRule_1 rfl ?_
  refine hr_pI (lo := -2147483648) (hi := 2147483647) C hr0 TM0 rfl ⟨by decide, by decide⟩ pl_X12_311 dX12_readRule_2 (by omega) (by omega) rfl (fun w1 o2 s3 e4 => ?_)
  refine hr_aln C 0 dX12_readRule_5 rfl rfl rfl ?_
  refine hr_gA (g := 15) C hr0 TM0 rfl (by decide) fl_X12_57 dX12_readRule_6 rfl (fun a5 ha6 => ?_)
  refine hr_aln C 0 dX12_readRule_9 rfl rfl rfl ?_
  refine hr_gI (lo := 0) (hi := 1) C hr0 TM0 rfl fl_X12_265 dX12_readRule_10 rfl (fun b7 b8 => ?_)
  have q9 : vi w1 0 35 = vi ws 0 35 := by rw [e4, if_neg (by omega)]
  rw [q9] at b7 b8 ⊢
  refine hr_iln C 1 dX12_readRule_13 rfl rfl rfl ?_
  refine hr_add C dX12_readRule_14 rfl ?_
  refine hr_aln C 0 dX12_readRule_15 rfl rfl rfl ?_
  refine hr_gI (lo := 0) (hi := 1120) C hr0 TM0 rfl fl_X12_268 dX12_readRule_16 rfl (fun b10 b11 => ?_)
  have q12 : vi w1 0 36 = vi ws 0 36 := by rw [e4, if_neg (by omega)]
  rw [q12] at b10 b11 ⊢
  refine hr_ast C ha6 TMa_15 (by omega) (by omega) (by decide) ⟨by omega, by omega⟩ (hp1 (by omega) (by omega)) dX12_readRule_19 rfl (fun w13 o14 s15 e16 => ?_)
  refine hr_aln C 0 dX12_readRule_20 rfl rfl rfl ?_
  refine hr_cV (As := []) (rest := []) C (h_e h r f hr0 hf) ⟨by decide, by decide⟩ iV_X12_e g_X12_314 TM0 hr0 dX12_readRule_21 rfl rfl (Nat.le_of_ble_eq_true rfl) rfl ⟨rfl, (by rw [e16, if_neg (by omega)]; rw [e4, if_neg (by omega)]; exact h36), (by rw [e16, if_neg (by omega)]; rw [e4, if_pos ⟨rfl, rfl⟩]), (by rw [e16, if_neg (by omega)]; rw [e4, if_neg (by omega)]; omega)⟩ (fun w17 rv o18 q19 => ?_)
  obtain ⟨s20, rfl, he2, fr2, we2⟩ := q19
  have we3 := we2
  unfold WE at we3
  obtain ⟨-, we4, we5⟩ := we3
  refine hr_norm (st' := []) rfl ?_
  refine hr_aln C 0 dX12_readRule_24 rfl rfl rfl ?_
  refine hr_gA (g := 16) C hr0 TM0 rfl (by decide) fl_X12_60 dX12_readRule_25 rfl (fun a21 ha22 => ?_)
  refine hr_aln C 0 dX12_readRule_28 rfl rfl rfl ?_
  refine hr_gI (lo := 0) (hi := 1) C hr0 TM0 rfl fl_X12_265 dX12_readRule_29 rfl (fun b23 b24 => ?_)
  have q25 : vi w17 0 35 = vi ws 0 35 := by rw [sm_f o14 o18 s20 (by decide)]; rw [e16, if_neg (by omega)]; rw [e4, if_neg (by omega)]
  rw [q25] at b23 b24 ⊢
  refine hr_iln C 1 dX12_readRule_32 rfl rfl rfl ?_
  refine hr_add C dX12_readRule_33 rfl ?_
  refine hr_aln C 0 dX12_readRule_34 rfl rfl rfl ?_
  refine hr_gI (lo := 0) (hi := 1120) C hr0 TM0 rfl fl_X12_268 dX12_readRule_35 rfl (fun b26 b27 => ?_)
  refine hr_ast C ha22 TMa_16 (by omega) (by omega) (by decide) ⟨by omega, by omega⟩ (hp1 (by omega) (by omega)) dX12_readRule_38 rfl (fun w28 o29 s30 e31 => ?_)
  have hI : (Int.toNat (vi ws 0 35 + 0)) = (vi ws 0 35).toNat := by rw [Int.add_zero]
  exact hr_vret C hlocks hr dX12_readRule_39 ⟨(fx_sm_tr (fx_sm_tr (fx_sm_tr (fx_sm_tr fx_sm_refl s3 (by decide)) s15 (by decide)) s20 (by decide)) s30 (by decide)), rfl, (by rw [e31, if_neg (by omega)]; exact he2), FRc_tr (FRc_tr (FRc_eq (fun j => (by rw [e16, if_neg (by omega)]; rw [e4, if_neg (by omega)]))) fr2) (FRc_eq (fun j => by rw [e31, if_neg (by omega)])), WE_c (w := w17) (by rw [e31, if_neg (by omega)]) (fun j => by rw [e31, if_neg (by omega)]) we2, fun j => by rw [e31, if_neg (by omega)]; rw [sm_a o14 o18 s20 TMa_15 (by decide)]; rw [e16]; simp only [true_and]; rw [hI]; split <;> first | exact h36 | (rw [e4, if_neg (by omega)]), fun j => by rw [e31]; simp only [true_and]; rw [hI]; split <;> first | (exact (show vi w28 0 36 = vi w17 0 36 from (by rw [e31, if_neg (by omega)])).symm) | (rw [sm_a o14 o18 s20 TMa_16 (by decide)]; rw [e16, if_neg (by omega)]; rw [e4, if_neg (by omega)])⟩
