theorem m_351 : Cond.methodLink RX9 40 yX9_skipBlanks ∈ wsL_law := in_wsL_law_r15 _ (List.mem_of_getElem? (i := 15) rfl)
theorem m_352 : Cond.instanceMethod yX9_skipBlanks ∈ wsL_law := in_wsL_law_r15 _ (List.mem_of_getElem? (i := 16) rfl)
theorem m_353 : Cond.selects RX9 yX9_skipBlanks yX9_skipBlanks ∈ wsL_law := in_wsL_law_r15 _ (List.mem_of_getElem? (i := 17) rfl)
theorem m_354 : Cond.code yX9_skipBlanks cX9_skipBlanks 1 none ∈ wsL_law := in_wsL_law_r15 _ (List.mem_of_getElem? (i := 18) rfl)
theorem m_365 : Cond.methodLink RX9 54 yX9_readLetters ∈ wsL_law := in_wsL_law_r16 _ (List.mem_of_getElem? (i := 5) rfl)
theorem m_366 : Cond.instanceMethod yX9_readLetters ∈ wsL_law := in_wsL_law_r16 _ (List.mem_of_getElem? (i := 6) rfl)
theorem m_367 : Cond.selects RX9 yX9_readLetters yX9_readLetters ∈ wsL_law := in_wsL_law_r16 _ (List.mem_of_getElem? (i := 7) rfl)
theorem m_368 : Cond.code yX9_readLetters cX9_readLetters 1 none ∈ wsL_law := in_wsL_law_r16 _ (List.mem_of_getElem? (i := 8) rfl)
theorem m_377 : Cond.methodLink RX9 60 yX9_readDigits ∈ wsL_law := in_wsL_law_r16 _ (List.mem_of_getElem? (i := 17) rfl)
theorem m_378 : Cond.instanceMethod yX9_readDigits ∈ wsL_law := in_wsL_law_r16 _ (List.mem_of_getElem? (i := 18) rfl)
theorem m_379 : Cond.selects RX9 yX9_readDigits yX9_readDigits ∈ wsL_law := in_wsL_law_r16 _ (List.mem_of_getElem? (i := 19) rfl)
theorem m_380 : Cond.code yX9_readDigits cX9_readDigits 2 none ∈ wsL_law := in_wsL_law_r16 _ (List.mem_of_getElem? (i := 20) rfl)
theorem m_382 : Cond.methodLink RX9 68 yJ0_indexOf_0f7a4 ∈ wsL_law := in_wsL_law_r16 _ (List.mem_of_getElem? (i := 22) rfl)
theorem m_383 : Cond.instanceMethod yJ0_indexOf_0f7a4 ∈ wsL_law := in_wsL_law_r16 _ (List.mem_of_getElem? (i := 23) rfl)
theorem m_384 : Cond.selects RJ0 yJ0_indexOf_0f7a4 yJ0_indexOf_0f7a4 ∈ wsL_law := in_wsL_law_r17 _ (List.mem_of_getElem? (i := 0) rfl)
theorem m_385 : Cond.code yJ0_indexOf_0f7a4 cJ0_indexOf_0f7a4 2 (some .int) ∈ wsL_law := in_wsL_law_r17 _ (List.mem_of_getElem? (i := 1) rfl)
theorem pl_X9_43 : fx_pl wsL_law nestW classes RX9 (43, 9, 5, 0) := ⟨RX9, TX9, 8, tyX9, tyX9 5, rfl, by decide, inlX9, tyX9_ok, nmX9, rfl, tyX9_ok 5 (by decide), rfl, Or.inl m_349⟩
theorem iV_X9_skipBlanks : yX9_skipBlanks.cls = RX9 ∧ yX9_skipBlanks.cls ≠ "java/lang/invoke/MethodHandle" ∧ yX9_skipBlanks.cls ≠ "java/lang/invoke/VarHandle" ∧ (parseMethodDescriptor yX9_skipBlanks.desc).map (fun d => d.parameters.length) = some 0 := by decide +kernel
theorem iV_X9_readDigits : yX9_readDigits.cls = RX9 ∧ yX9_readDigits.cls ≠ "java/lang/invoke/MethodHandle" ∧ yX9_readDigits.cls ≠ "java/lang/invoke/VarHandle" ∧ (parseMethodDescriptor yX9_readDigits.desc).map (fun d => d.parameters.length) = some 0 := by decide +kernel
theorem iV_X9_readLetters : yX9_readLetters.cls = RX9 ∧ yX9_readLetters.cls ≠ "java/lang/invoke/MethodHandle" ∧ yX9_readLetters.cls ≠ "java/lang/invoke/VarHandle" ∧ (parseMethodDescriptor yX9_readLetters.desc).map (fun d => d.parameters.length) = some 0 := by decide +kernel
theorem g_X9_40 : GoodIn wsL_law (wsV RX9 40 RX9 yX9_skipBlanks (.code yX9_skipBlanks cX9_skipBlanks 1 none :: wsL_law)) := gdV m_351 m_352 m_353 m_51 m_354
theorem g_X9_60 : GoodIn wsL_law (wsV RX9 60 RX9 yX9_readDigits (.code yX9_readDigits cX9_readDigits 2 none :: wsL_law)) := gdV m_377 m_378 m_379 m_51 m_380
theorem g_X9_54 : GoodIn wsL_law (wsV RX9 54 RX9 yX9_readLetters (.code yX9_readLetters cX9_readLetters 1 none :: wsL_law)) := gdV m_365 m_366 m_367 m_51 m_368
theorem dX9_advance_91 : decode cX9_advance 91 = .ok (.return_, 1) := by decide +kernel
theorem dX9_advance_0 : decode cX9_advance 0 = .ok (.aload_n 0, 1) := by decide +kernel
theorem dX9_advance_1 : decode cX9_advance 1 = .ok (.invokevirtual 40, 3) := by decide +kernel
theorem dX9_advance_4 : decode cX9_advance 4 = .ok (.aload_n 0, 1) := by decide +kernel
theorem dX9_advance_5 : decode cX9_advance 5 = .ok (.aload_n 0, 1) := by decide +kernel
theorem dX9_advance_6 : decode cX9_advance 6 = .ok (.getfield 34, 3) := by decide +kernel
theorem dX9_advance_9 : decode cX9_advance 9 = .ok (.putfield 43, 3) := by decide +kernel
theorem dX9_advance_12 : decode cX9_advance 12 = .ok (.aload_n 0, 1) := by decide +kernel
theorem dX9_advance_13 : decode cX9_advance 13 = .ok (.aload_n 0, 1) := by decide +kernel
theorem dX9_advance_14 : decode cX9_advance 14 = .ok (.getfield 34, 3) := by decide +kernel
theorem dX9_advance_17 : decode cX9_advance 17 = .ok (.invokevirtual 46, 3) := by decide +kernel
theorem dX9_advance_20 : decode cX9_advance 20 = .ok (.istore_n 1, 1) := by decide +kernel
theorem dX9_advance_21 : decode cX9_advance 21 = .ok (.iload_n 1, 1) := by decide +kernel
theorem dX9_advance_22 : decode cX9_advance 22 = .ok (.invokestatic 50, 3) := by decide +kernel
theorem dX9_advance_25 : decode cX9_advance 25 = .ok (.ifCond .eq 10, 3) := by decide +kernel
theorem dX9_advance_35 : decode cX9_advance 35 = .ok (.iload_n 1, 1) := by decide +kernel
theorem dX9_advance_36 : decode cX9_advance 36 = .ok (.invokestatic 57, 3) := by decide +kernel
theorem dX9_advance_39 : decode cX9_advance 39 = .ok (.ifCond .eq 10, 3) := by decide +kernel
theorem dX9_advance_49 : decode cX9_advance 49 = .ok (.iload_n 1, 1) := by decide +kernel
theorem dX9_advance_50 : decode cX9_advance 50 = .ok (.iconst (-1), 1) := by decide +kernel
theorem dX9_advance_51 : decode cX9_advance 51 = .ok (.if_icmp .ne 11, 3) := by decide +kernel
theorem dX9_advance_62 : decode cX9_advance 62 = .ok (.aload_n 0, 1) := by decide +kernel
theorem dX9_advance_63 : decode cX9_advance 63 = .ok (.dup, 1) := by decide +kernel
theorem dX9_advance_64 : decode cX9_advance 64 = .ok (.getfield 34, 3) := by decide +kernel
theorem dX9_advance_67 : decode cX9_advance 67 = .ok (.iconst 1, 1) := by decide +kernel
theorem dX9_advance_68 : decode cX9_advance 68 = .ok (.iadd, 1) := by decide +kernel
theorem dX9_advance_69 : decode cX9_advance 69 = .ok (.putfield 34, 3) := by decide +kernel
theorem dX9_advance_72 : decode cX9_advance 72 = .ok (.aload_n 0, 1) := by decide +kernel
theorem dX9_advance_73 : decode cX9_advance 73 = .ok (.ldc 66, 2) := by decide +kernel
theorem dX9_advance_75 : decode cX9_advance 75 = .ok (.iload_n 1, 1) := by decide +kernel
theorem dX9_advance_76 : decode cX9_advance 76 = .ok (.i2c, 1) := by decide +kernel
theorem dX9_advance_77 : decode cX9_advance 77 = .ok (.invokevirtual 68, 3) := by decide +kernel
theorem dX9_advance_80 : decode cX9_advance 80 = .ok (.ifCond .lt 7, 3) := by decide +kernel
theorem dX9_advance_87 : decode cX9_advance 87 = .ok (.iconst 1, 1) := by decide +kernel
theorem dX9_advance_88 : decode cX9_advance 88 = .ok (.putfield 63, 3) := by decide +kernel
theorem dX9_advance_83 : decode cX9_advance 83 = .ok (.iload_n 1, 1) := by decide +kernel
theorem dX9_advance_84 : decode cX9_advance 84 = .ok (.goto 4, 3) := by decide +kernel
theorem dX9_advance_54 : decode cX9_advance 54 = .ok (.aload_n 0, 1) := by decide +kernel
theorem dX9_advance_55 : decode cX9_advance 55 = .ok (.iconst (-1), 1) := by decide +kernel
theorem dX9_advance_56 : decode cX9_advance 56 = .ok (.putfield 63, 3) := by decide +kernel
theorem dX9_advance_59 : decode cX9_advance 59 = .ok (.goto 32, 3) := by decide +kernel
theorem dX9_advance_42 : decode cX9_advance 42 = .ok (.aload_n 0, 1) := by decide +kernel
theorem dX9_advance_43 : decode cX9_advance 43 = .ok (.invokevirtual 60, 3) := by decide +kernel
theorem dX9_advance_46 : decode cX9_advance 46 = .ok (.goto 45, 3) := by decide +kernel
theorem dX9_advance_28 : decode cX9_advance 28 = .ok (.aload_n 0, 1) := by decide +kernel
theorem dX9_advance_29 : decode cX9_advance 29 = .ok (.invokevirtual 54, 3) := by decide +kernel
theorem dX9_advance_32 : decode cX9_advance 32 = .ok (.goto 59, 3) := by decide +kernel
-- by hand over the class's world: any world of the types that differs from the first by no more than MD
theorem wx_obj {Y : fx_Y} {ad : List Nat} {ws : va_W} {k a g ci : Nat} {ts : List fx_T} (hw : fx_wo Y ad ws) (ha : ad[k]? = some a) (hg : Y.1[k]? = some g) (hT : Y.2.1[g]? = some (.inl (ci, ts))) : ∃ vs, ws[k]? = some (a, .inr (ci, vs)) ∧ vs.length = ts.length ∧ ∀ (i : Nat) (t : fx_T), ts[i]? = some t → ∃ v, vs[i]? = some v ∧ fx_ok Y.1 ad t v := by
  have h0 : ∃ e, ws[k]? = some (a, e) := by
    rw [← hw.1, List.getElem?_map] at ha
    cases hq : ws[k]? with
    | none => rw [hq] at ha; cases ha
    | some q => rw [hq] at ha; cases ha; exact ⟨q.2, rfl⟩
  obtain ⟨e, he⟩ := h0
  obtain ⟨g', G', q1, q2, q3⟩ := hw.2 k a e he
  have e1 : g' = g := Option.some.inj (q1.symm.trans hg)
  subst e1
  rw [hT] at q2
  cases q2
  rcases e with x | ⟨c', vs⟩
  · exact False.elim q3
  · obtain ⟨rfl, h2, h3⟩ := q3
    exact ⟨vs, he, h2, h3⟩
def xS (gs ad : List Nat) (D : va_G) (cy : Nat → ClassId) (A : Nat → Prop) (H0 : Heap) (MD : List (Nat × Nat)) (w0 : va_W) (H : Heap) (locs : List Loc) : Prop := ∃ ws, fx_wo (gs, TX, cy, fun _ => True) ad ws ∧ fx_sm (gs, TX, cy, fun _ => True) MD w0 ws ∧ va_P D classes ws H ∧ va_D A ws ∧ va_S A H0 H locs
section XA9
variable {l : Launch} {E : (Nat → Prop) → State → Prop} {gs ad : List Nat} {D : va_G} {cy : Nat → ClassId} {A : Nat → Prop} {H0 : Heap} {MD : List (Nat × Nat)} {w0 : va_W} {p : Program} {e : Env} {R : Room} {s : State} {m : MethodId} {args : Array Value} {below : List Frame} {meth : Method} {c : Code} {Q : State → Prop} {cc : ByteArray} {nL : Nat} {own : String} {pc : Nat} {st : List Value} {H : Heap} {locs : List Loc} {ls : Array Slot}
theorem x_get (hx : p.tables.exec = Jvm.exec) (hb : c.code = cc) (hts : ∀ w ∈ wsL_law, w.before args s = true) (hown : s.vm.findClass own = some m.cls) (hE : fx_env E D classes (tys cy) nestW) (hEs : E A s) {k a g ci fi i : Nat} {ts : List fx_T} {q : Int × Int} (ha : ad[k]? = some a) (hg : gs[k]? = some g) (hT : TX[g]? = some (.inl (ci, ts))) (ht : ts[fi]? = some (.inl q)) (hfl : fx_gl wsL_law nestW classes own (i, ci, fi)) (hdg : decode cc pc = .ok (.getfield i, 3)) (hh : xS gs ad D cy A H0 MD w0 H locs) (kk : ∀ z : Int32, W p l e R s m args below meth c H locs 0 0 Q (F0 m (pc + 3) ls (.int z :: st))) : W p l e R s m args below meth c H locs 0 0 Q (F0 m pc ls (.ref a :: st)) := by
  obtain ⟨ws, h1, h2, h3, h4, h5⟩ := hh
  obtain ⟨vs, g1, g2, g3⟩ := wx_obj h1 ha hg hT
  obtain ⟨v, v1, x, rfl, -, -⟩ := g3 fi _ ht
  obtain ⟨C', T', N', c1, c2, c3, c4⟩ := hfl
  have hK := hE.1 _ _ hEs
  rcases c4 with c4 | ⟨host, c4⟩
  · exact va_get hx hb hts c3 hown hK.1 h3 k g1 c1 fi c2 (hts _ c4) (fun _ h9 => h9) v1 hdg (kk x)
  · exact va_getN hx hb hts c3 hown hK.1 h3 k g1 c1 fi c2 (va_Nw.use rfl (hK.2 _ c4)) (fun _ h9 => h9) v1 hdg (kk x)
theorem x_put (hx : p.tables.exec = Jvm.exec) (hb : c.code = cc) (hts : ∀ w ∈ wsL_law, w.before args s = true) (hown : s.vm.findClass own = some m.cls) (hE : fx_env E D classes (tys cy) nestW) (hEs : E A s) {k a g ci fi i : Nat} {ts : List fx_T} {z : Int32} (ha : ad[k]? = some a) (hg : gs[k]? = some g) (hT : TX[g]? = some (.inl (ci, ts))) (ht : ts[fi]? = some (.inl (-2147483648, 2147483647))) (hpl : fx_pl wsL_law nestW classes own (i, ci, fi, 0)) (hmd : (ci, fi) ∈ MD) (hdg : decode cc pc = .ok (.putfield i, 3)) (hh : xS gs ad D cy A H0 MD w0 H locs) (kk : ∀ (H1 : Heap) (locs1 : List Loc), xS gs ad D cy A H0 MD w0 H1 locs1 → W p l e R s m args below meth c H1 locs1 0 0 Q (F0 m (pc + 3) ls st)) : W p l e R s m args below meth c H locs 0 0 Q (F0 m pc ls (.int z :: .ref a :: st)) := by
  obtain ⟨ws, h1, h2, h3, h4, h5⟩ := hh
  obtain ⟨vs, g1, g2, g3⟩ := wx_obj h1 ha hg hT
  have hlen : fi < vs.length := by rw [g2]; exact (List.getElem?_eq_some_iff.mp ht).1
  have r := fx_r32 z
  unfold fx_lo32 fx_hi32 at r
  have hv : fx_ok gs ad (.inl (-2147483648, 2147483647)) (.int z) := ⟨z, rfl, r⟩
  obtain ⟨C', T', N', ty0, ty, c1, c2, c3, c4, c5, c6, c7, c8, c9⟩ := hpl
  obtain ⟨n1, n2⟩ := fx_kk_ok (kd := 0) (t := .inl (-2147483648, 2147483647)) rfl c8 hv
  have hK := hE.1 _ _ hEs
  have kf : ∀ (H1 : Heap) (locs1 : List Loc), va_P D classes (ws.set k (a, .inr (ci, vs.set fi (.int z)))) H1 → va_D A (ws.set k (a, .inr (ci, vs.set fi (.int z)))) → va_S A H0 H1 locs1 → W p l e R s m args below meth c H1 locs1 0 0 Q (F0 m (pc + 3) ls st) := fun H1 locs1 hP1 hD1 hS1 =>
    kk H1 locs1 ⟨_, fx_wo_set h1 g1 hg hT (fx_ok_set g2 g3 ht hv), fx_sm_set h2 g1 hmd, hP1, hD1, hS1⟩
  rcases c9 with c9 | ⟨host, c9⟩
  · exact va_put hx hb hts c3 ty0 c4 c5 hown hK.1 h3 h4 h5 k g1 c1 fi c2 (hts _ c9) (fun _ h9 => h9) c6 c7 n1 n2 hlen hdg kf
  · exact va_putN hx hb hts c3 ty0 c4 c5 hown hK.1 h3 h4 h5 k g1 c1 fi c2 (va_Nw.use rfl (hK.2 _ c9)) (fun _ h9 => h9) c6 c7 n1 n2 hlen hdg kf
theorem x_cS (hx : p.tables.exec = Jvm.exec) (hb : c.code = cc) (hml : c.maxLocals = nL) (hts : ∀ w ∈ wsL_law, w.before args s = true) (hown : s.vm.findClass own = some m.cls) (hE : fx_env E D classes (tys cy) nestW) (hEs : E A s) (hH0 : H0 = s.heap) (hA : ∀ q, H0.size ≤ q → A q) {lv : List (Nat × Value)} (hl : lv_has ls nL lv) {y : MethodName} {bytes : ByteArray} {maxL fr lo n i : Nat} {ret : Option FieldType} {As rest : List Value} {c0 : fx_C} (hm : fx_Met l y (Cond.code y bytes maxL ret :: wsL_law) ({ frames := fr, cells := 0, slots := 0, locals := lo }) E (gs, TX, cy, fun _ => True) ad D classes c0) (hpre : c0.2.1 = []) (hmd : ∀ q ∈ c0.2.2.2, q ∈ MD) (h3 : fr + 1 ≤ R.frames ∧ 8 + (maxL + 11) + lo ≤ R.locals) (h5 : y.cls ≠ "java/lang/invoke/MethodHandle" ∧ y.cls ≠ "java/lang/invoke/VarHandle" ∧ (parseMethodDescriptor y.desc).map (fun d => d.parameters.length) = some n) (h6 : GoodIn wsL_law (va_wsS own i y (Cond.code y bytes maxL ret :: wsL_law))) (hdg : decode cc pc = .ok (.invokestatic i, 3)) (hn : As.length = n) (hst : st = As.reverse ++ rest) (hsum : (rest.map fun v => v.category).sum ≤ 8) (hty : fx_ty (gs, TX, cy, fun _ => True) ad c0.1 As) (hh : xS gs ad D cy A H0 MD w0 H locs) (kk : ∀ (rv : Option Value) (po : fx_P) (ws1 : va_W) (H1 : Heap) (locs1 : List Loc), xS gs ad D cy A H0 MD w0 H1 locs1 → po ∈ c0.2.2.1 → fx_po (gs, TX, cy, fun _ => True) ad po As ws1 rv → W p l e R s m args below meth c H1 locs1 0 0 Q (F0 m (pc + 3) ls (rv.toList ++ rest))) : W p l e R s m args below meth c H locs 0 0 Q (F0 m pc ls st) := by
  obtain ⟨ws, h1, h2, hP, hD, hS⟩ := hh
  have hM := hm As ws H.size As hty (by rw [hpre]; rfl) h1 trivial ⟨hD.1, fun _ _ _ => trivial⟩
  have hsub := fx_Asub hA hD hS
  refine fx_call (A1 := va_A ws H.size) (va_runS (As := As) (rest := rest) ⟨hx, hb, hml, hown, hts⟩ hM (va_cwS n hts h6 rfl rfl rfl h5 h3) ⟨fun a U g mk q => ?_, fun U hU hW => ?_⟩ rfl hn hl.1 hst (lv_room hsum) hdg ⟨by omega, by omega⟩) hS (fun q _ hq => hsub q hq) hsub (fun st v t h => h.2) (fun v st₀ t H1 locs1 e0 e1 hq hS1 => ?_)
  · obtain ⟨q0, q1, q2, q3⟩ := q
    exact ⟨q0, q1, q2, hE.2.2 _ _ _ _ _ q3⟩
  · exact ⟨rfl, by rw [hU], by rw [hU]; exact hP, hE.2.1 A _ _ _ hW (fun a h1 h2 => by rw [hU]; have := hS.2.1 a (by rw [hH0]; exact h1) h2; rw [this, hH0]) hsub hEs⟩
  · obtain ⟨⟨ws1, rv, e2, p1, p2, -, p3, po, p4, p5⟩, -⟩ := hq
    cases e2
    rw [e1] at p1
    exact kk v po ws1 H1 locs1 ⟨ws1, p2, fx_sm_tr h2 p3 hmd, p1, fx_D_of hD (by rw [p2.1, h1.1]), hS1⟩ p4 p5
theorem x_cV (hx : p.tables.exec = Jvm.exec) (hb : c.code = cc) (hml : c.maxLocals = nL) (hts : ∀ w ∈ wsL_law, w.before args s = true) (hown : s.vm.findClass own = some m.cls) (hE : fx_env E D classes (tys cy) nestW) (hEs : E A s) (hH0 : H0 = s.heap) (hA : ∀ q, H0.size ≤ q → A q) {lv : List (Nat × Value)} (hl : lv_has ls nL lv) {y : MethodName} {bytes : ByteArray} {maxL fr lo n i k a g ci : Nat} {ret : Option FieldType} {ts : List fx_T} {q0 : vw_C} {As rest : List Value} {c0 : fx_C} (hm : fx_Met l y (Cond.code y bytes maxL ret :: wsL_law) ({ frames := fr, cells := 0, slots := 0, locals := lo }) E (gs, TX, cy, fun _ => True) ad D classes c0) (hpre : c0.2.1 = []) (hmd : ∀ q ∈ c0.2.2.2, q ∈ MD) (h3 : fr + 1 ≤ R.frames ∧ 8 + (maxL + 11) + lo ≤ R.locals) (hc : classes[ci]? = some q0) (h5 : y.cls = q0.1 ∧ y.cls ≠ "java/lang/invoke/MethodHandle" ∧ y.cls ≠ "java/lang/invoke/VarHandle" ∧ (parseMethodDescriptor y.desc).map (fun d => d.parameters.length) = some n) (h6 : GoodIn wsL_law (wsV own i q0.1 y (Cond.code y bytes maxL ret :: wsL_law))) (ha : ad[k]? = some a) (hg : gs[k]? = some g) (hT : TX[g]? = some (.inl (ci, ts))) (hdg : decode cc pc = .ok (.invokevirtual i, 3)) (hn : As.length = n) (hst : st = As.reverse ++ .ref a :: rest) (hsum : (rest.map fun v => v.category).sum ≤ 8) (hty : fx_ty (gs, TX, cy, fun _ => True) ad c0.1 (.ref a :: As)) (hh : xS gs ad D cy A H0 MD w0 H locs) (kk : ∀ (rv : Option Value) (po : fx_P) (ws1 : va_W) (H1 : Heap) (locs1 : List Loc), xS gs ad D cy A H0 MD w0 H1 locs1 → po ∈ c0.2.2.1 → fx_po (gs, TX, cy, fun _ => True) ad po (.ref a :: As) ws1 rv → W p l e R s m args below meth c H1 locs1 0 0 Q (F0 m (pc + 3) ls (rv.toList ++ rest))) : W p l e R s m args below meth c H locs 0 0 Q (F0 m pc ls st) := by
  obtain ⟨ws, h1, h2, hP, hD, hS⟩ := hh
  obtain ⟨vs, g1, -, -⟩ := wx_obj h1 ha hg hT
  have hM := hm (.ref a :: As) ws H.size (.ref a :: As) hty (by rw [hpre]; rfl) h1 trivial ⟨hD.1, fun _ _ _ => trivial⟩
  have hsub := fx_Asub hA hD hS
  have hK := hE.1 _ _ hEs
  refine fx_call (A1 := va_A ws H.size) (va_runV (As := As) (rest := rest) (b := a) ⟨hx, hb, hml, hown, hts⟩ hM (cwV n hts h6 rfl rfl rfl h5 h3) ⟨fun a U g mk q => ?_, va_recv hK.1 hP hc g1, fun U hU hW => ?_⟩ rfl hn hl.1 hst (lv_room hsum) hdg ⟨by omega, by omega⟩) hS (fun q _ hq => hsub q hq) hsub (fun st v t h => h.2) (fun v st₀ t H1 locs1 e0 e1 hq hS1 => ?_)
  · obtain ⟨q0, q1, q2, q3⟩ := q
    exact ⟨q0, q1, q2, hE.2.2 _ _ _ _ _ q3⟩
  · exact ⟨rfl, by rw [hU], by rw [hU]; exact hP, hE.2.1 A _ _ _ hW (fun a h1 h2 => by rw [hU]; have := hS.2.1 a (by rw [hH0]; exact h1) h2; rw [this, hH0]) hsub hEs⟩
  · obtain ⟨⟨ws1, rv, e2, p1, p2, -, p3, po, p4, p5⟩, -⟩ := hq
    cases e2
    rw [e1] at p1
    exact kk v po ws1 H1 locs1 ⟨ws1, p2, fx_sm_tr h2 p3 hmd, p1, fx_D_of hD (by rw [p2.1, h1.1]), hS1⟩ p4 p5
end XA9
theorem xty1 {Y : fx_Y} {ad : List Nat} {k a g : Nat} (hk : g < 10000) (ha : ad[k]? = some a) (hg : Y.1[k]? = some g) : fx_ty Y ad [.inr (.inr (g + 1))] [.ref a] := by
  refine ⟨rfl, fun i t hi => ?_⟩
  cases i with
  | zero => simp at hi; subst hi; exact ⟨_, rfl, k, a, ha, Or.inl ⟨hk, hg⟩, rfl⟩
  | succ i => simp at hi
theorem xti {gs ad : List Nat} (z : Int32) : fx_ok gs ad (.inl (-2147483648, 2147483647)) (.int z) := by
  have r := fx_r32 z
  unfold fx_lo32 fx_hi32 at r
  exact ⟨z, rfl, r⟩
theorem xty2 {Y : fx_Y} {ad : List Nat} {k a g : Nat} {z : Int32} (hk : g < 10000) (ha : ad[k]? = some a) (hg : Y.1[k]? = some g) : fx_ty Y ad [.inr (.inr (g + 1)), .inl (-2147483648, 2147483647)] [.ref a, .int z] := by
  refine ⟨rfl, fun i t hi => ?_⟩
  match i, hi with
  | 0, hi => simp at hi; subst hi; exact ⟨_, rfl, k, a, ha, Or.inl ⟨hk, hg⟩, rfl⟩
  | 1, hi => simp at hi; subst hi; exact ⟨_, rfl, xti z⟩
  | i + 2, hi => simp at hi
theorem xty0 {Y : fx_Y} {ad : List Nat} {z : Int32} : fx_ty Y ad [.inl (-2147483648, 2147483647)] [.int z] := by
  refine ⟨rfl, fun i t hi => ?_⟩
  cases i with
  | zero => simp at hi; subst hi; exact ⟨_, rfl, xti z⟩
  | succ i => simp at hi
theorem xrv {Y : fx_Y} {ad : List Nat} {po : fx_P} {av : List Value} {ws1 : va_W} {rv : Option Value} (h : fx_po Y ad po av ws1 rv) (hi : ∃ q, po.1 = some (.inl q)) : ∃ z : Int32, rv = some (.int z) := by
  obtain ⟨q, e⟩ := hi
  have h1 := h.1
  rw [e] at h1
  obtain ⟨v, rfl, x, rfl, -, -⟩ := h1
  exact ⟨x, rfl⟩
theorem xrn {Y : fx_Y} {ad : List Nat} {po : fx_P} {av : List Value} {ws1 : va_W} {rv : Option Value} (h : fx_po Y ad po av ws1 rv) (hi : po.1 = none) : rv = none := by
  have h1 := h.1
  rw [hi] at h1
  exact h1

