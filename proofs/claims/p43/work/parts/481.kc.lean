-- worlds put together
theorem ig_l {g1 g2 : List Nat} {k g : Nat} (h : fx_ig g1 k g) : fx_ig (g1 ++ g2) k g := by
  have key : ∀ g', g1[k]? = some g' → (g1 ++ g2)[k]? = some g' := fun g' e => by
    rw [List.getElem?_append_left (List.getElem?_eq_some_iff.mp e).1]; exact e
  rcases h with ⟨h1, h2⟩ | ⟨h1, g', h2, h3, h4⟩
  · exact Or.inl ⟨h1, key _ h2⟩
  · exact Or.inr ⟨h1, g', h2, key _ h3, h4⟩
theorem ig_r {g1 g2 : List Nat} {k g : Nat} (h : fx_ig g2 k g) : fx_ig (g1 ++ g2) (g1.length + k) g := by
  have key : ∀ g', g2[k]? = some g' → (g1 ++ g2)[g1.length + k]? = some g' := fun g' e => by
    rw [List.getElem?_append_right (Nat.le_add_right _ _), Nat.add_sub_cancel_left]; exact e
  rcases h with ⟨h1, h2⟩ | ⟨h1, g', h2, h3, h4⟩
  · exact Or.inl ⟨h1, key _ h2⟩
  · exact Or.inr ⟨h1, g', h2, key _ h3, h4⟩
theorem ok_l2 {g1 g2 a1 a2 : List Nat} {t : fx_T} {v : Value} (h : fx_ok g1 a1 t v) : fx_ok (g1 ++ g2) (a1 ++ a2) t v := by
  rcases t with i | i | i
  · exact h
  · exact h
  · cases i with
    | zero => exact h
    | succ g =>
      obtain ⟨k, a, h1, h2, h3⟩ := h
      exact ⟨k, a, by rw [List.getElem?_append_left (List.getElem?_eq_some_iff.mp h1).1]; exact h1, ig_l h2, h3⟩
theorem ok_r2 {g1 g2 a1 a2 : List Nat} {t : fx_T} {v : Value} (e : g1.length = a1.length) (h : fx_ok g2 a2 t v) : fx_ok (g1 ++ g2) (a1 ++ a2) t v := by
  rcases t with i | i | i
  · exact h
  · exact h
  · cases i with
    | zero => exact h
    | succ g =>
      obtain ⟨k, a, h1, h2, h3⟩ := h
      refine ⟨g1.length + k, a, ?_, ig_r h2, h3⟩
      rw [e, List.getElem?_append_right (Nat.le_add_right _ _), Nat.add_sub_cancel_left]; exact h1
theorem okE_m {Y Y' : fx_Y} {ad ad' : List Nat} {G : fx_G} {e : va_E} (h3 : Y'.2.2.1 = Y.2.2.1) (hm : ∀ t v, fx_ok Y.1 ad t v → fx_ok Y'.1 ad' t v) (h : fx_okE Y ad G e) : fx_okE Y' ad' G e := by
  rcases G with ⟨ci, ts⟩ | ⟨t0, n, pat⟩ <;> rcases e with ⟨cA, n', x⟩ | ⟨c, vs⟩
  · exact h
  · obtain ⟨q1, q2, q3⟩ := h
    exact ⟨q1, q2, fun i t ht => by obtain ⟨v, v1, v2⟩ := q3 i t ht; exact ⟨v, v1, hm t v v2⟩⟩
  · obtain ⟨q1, q2, q3, q4⟩ := h
    exact ⟨by rw [h3]; exact q1, q2, q3, fun j t hj ht => hm _ _ (q4 j t hj ht)⟩
  · exact h
theorem wo_len {Y : fx_Y} {ad : List Nat} {ws : va_W} (h : fx_wo Y ad ws) : ad.length = ws.length := by rw [← h.1, List.length_map]
theorem wo_app {g1 g2 a1 a2 : List Nat} {T : List fx_G} {cy : Nat → ClassId} {I J K : va_W → Prop} {w1 w2 : va_W} (h1 : fx_wo (g1, T, cy, I) a1 w1) (e1 : g1.length = w1.length) (h2 : fx_wo (g2, T, cy, J) a2 w2) : fx_wo (g1 ++ g2, T, cy, K) (a1 ++ a2) (w1 ++ w2) := by
  have ea : a1.length = w1.length := wo_len h1
  refine ⟨by rw [List.map_append, h1.1, h2.1], fun k a e hk => ?_⟩
  by_cases hl : k < w1.length
  · rw [List.getElem?_append_left hl] at hk
    obtain ⟨g, G, q1, q2, q3⟩ := h1.2 k a e hk
    exact ⟨g, G, by show (g1 ++ g2)[k]? = some g; rw [List.getElem?_append_left (by omega)]; exact q1, q2, okE_m (Y := (g1, T, cy, I)) (ad := a1) rfl (fun t v hq => ok_l2 hq) q3⟩
  · rw [List.getElem?_append_right (by omega)] at hk
    obtain ⟨g, G, q1, q2, q3⟩ := h2.2 _ a e hk
    exact ⟨g, G, by show (g1 ++ g2)[k]? = some g; rw [List.getElem?_append_right (by omega), e1]; exact q1, q2, okE_m (Y := (g2, T, cy, J)) (ad := a2) rfl (fun t v hq => ok_r2 (g1 := g1) (a1 := a1) (by omega) hq) q3⟩
/-- cells in front of a closed world -/
theorem wo_fin {gf gs ad : List Nat} {T : List fx_G} {cy : Nat → ClassId} {I K : va_W → Prop} {fr pl : va_W} (h : fx_wo (gs, T, cy, I) ad pl) (e1 : gf.length = fr.length) (hf : ∀ (k a : Nat) (e : va_E), fr[k]? = some (a, e) → ∃ g G, gf[k]? = some g ∧ T[g]? = some G ∧ fx_okE (gf ++ gs, T, cy, K) (fr.map Prod.fst ++ ad) G e) : fx_wo (gf ++ gs, T, cy, K) (fr.map Prod.fst ++ ad) (fr ++ pl) := by
  refine ⟨by rw [List.map_append, h.1], fun k a e hk => ?_⟩
  by_cases hl : k < fr.length
  · rw [List.getElem?_append_left hl] at hk
    obtain ⟨g, G, q1, q2, q3⟩ := hf k a e hk
    exact ⟨g, G, by show (gf ++ gs)[k]? = some g; rw [List.getElem?_append_left (by omega)]; exact q1, q2, q3⟩
  · rw [List.getElem?_append_right (by omega)] at hk
    obtain ⟨g, G, q1, q2, q3⟩ := h.2 _ a e hk
    exact ⟨g, G, by show (gf ++ gs)[k]? = some g; rw [List.getElem?_append_right (by omega), e1]; exact q1, q2, okE_m (Y := (gs, T, cy, I)) (ad := ad) rfl (fun t v hq => ok_r2 (g1 := gf) (a1 := fr.map Prod.fst) (by rw [List.length_map]; exact e1) hq) q3⟩
def rt (gs ad : List Nat) (q : Nat × Nat) : Prop := ∃ k : Nat, ad[k]? = some q.1 ∧ gs[k]? = some q.2
theorem rt_l {gs ad g2 a2 : List Nat} {q : Nat × Nat} (h : rt gs ad q) : rt (gs ++ g2) (ad ++ a2) q := by
  obtain ⟨k, h1, h2⟩ := h
  exact ⟨k, by rw [List.getElem?_append_left (List.getElem?_eq_some_iff.mp h1).1]; exact h1, by rw [List.getElem?_append_left (List.getElem?_eq_some_iff.mp h2).1]; exact h2⟩
theorem rt_r {gs ad g2 a2 : List Nat} {q : Nat × Nat} (e : gs.length = ad.length) (h : rt g2 a2 q) : rt (gs ++ g2) (ad ++ a2) q := by
  obtain ⟨k, h1, h2⟩ := h
  exact ⟨gs.length + k, by rw [e, List.getElem?_append_right (Nat.le_add_right _ _), Nat.add_sub_cancel_left]; exact h1, by rw [List.getElem?_append_right (Nat.le_add_right _ _), Nat.add_sub_cancel_left]; exact h2⟩
theorem rt_ok {gs ad : List Nat} {b g : Nat} (h : rt gs ad (b, g)) (hg : g < 10000) : fx_ok gs ad (.inr (.inr (g + 1))) (.ref b) := by
  obtain ⟨k, h1, h2⟩ := h
  exact ⟨k, b, h1, Or.inl ⟨hg, h2⟩, rfl⟩
theorem rt_okU {gs ad : List Nat} {b g u : Nat} (h : rt gs ad (b, g)) (hg : g < 10000) (hu : 10000 ≤ u ∧ g / 32 = u - 10000) : fx_ok gs ad (.inr (.inr (u + 1))) (.ref b) := by
  obtain ⟨k, h1, h2⟩ := h
  exact ⟨k, b, h1, Or.inr ⟨hu.1, g, hg, h2, hu.2⟩, rfl⟩
def oks (gs ad : List Nat) : List fx_T → List Value → Prop
  | [], [] => True
  | t :: ts, v :: vs => fx_ok gs ad t v ∧ oks gs ad ts vs
  | _, _ => False
theorem oks_ok {gs ad : List Nat} : ∀ {ts : List fx_T} {vs : List Value}, oks gs ad ts vs → vs.length = ts.length ∧ ∀ (i : Nat) (t : fx_T), ts[i]? = some t → ∃ v, vs[i]? = some v ∧ fx_ok gs ad t v
  | [], [], _ => ⟨rfl, fun i t h => by simp at h⟩
  | t :: ts, v :: vs, h => by
    obtain ⟨e, k⟩ := oks_ok h.2
    refine ⟨by simp [e], fun i t' hi => ?_⟩
    cases i with
    | zero => simp at hi; subst hi; exact ⟨v, rfl, h.1⟩
    | succ i => exact k i t' (by simpa using hi)
/-- a front of one object, a front of cells: what is wanted of each -/
def frs (T : List fx_G) (cy : Nat → ClassId) (gs ad : List Nat) : List Nat → va_W → Prop
  | [], [] => True
  | g :: gf, q :: fr => (∃ G, T[g]? = some G ∧ fx_okE (gs, T, cy, fun _ => True) ad G q.2) ∧ frs T cy gs ad gf fr
  | _, _ => False
theorem frs_ok {T : List fx_G} {cy : Nat → ClassId} {gs ad : List Nat} : ∀ {gf : List Nat} {fr : va_W}, frs T cy gs ad gf fr → gf.length = fr.length ∧ ∀ (k a : Nat) (e : va_E), fr[k]? = some (a, e) → ∃ g G, gf[k]? = some g ∧ T[g]? = some G ∧ fx_okE (gs, T, cy, fun _ => True) ad G e
  | [], [], _ => ⟨rfl, fun k a e h => by simp at h⟩
  | g :: gf, q :: fr, h => by
    obtain ⟨e, k⟩ := frs_ok h.2
    refine ⟨by simp [e], fun i a e' hi => ?_⟩
    cases i with
    | zero => simp at hi; subst hi; obtain ⟨G, g1, g2⟩ := h.1; exact ⟨g, G, rfl, g1, g2⟩
    | succ i => exact k i a e' (by simpa using hi)
-- what is being made: cells in front told one by one, a closed world behind them of which roots are known
def kP (T : List fx_G) (cy : Nat → ClassId) (D : va_G) (A : Nat → Prop) (H0 : Heap) (gc : List Nat → Prop) (fr : va_W) (rs : List (Nat × Nat)) (H : Heap) (locs : List Loc) : Prop :=
  ∃ (pl : va_W) (gs ad : List Nat), gc gs ∧ gs.length = pl.length ∧ fx_wo (gs, T, cy, fun _ => True) ad pl ∧ (∀ q ∈ rs, rt gs ad q) ∧ va_P D classes (fr ++ pl) H ∧ va_D A (fr ++ pl) ∧ va_S A H0 H locs
def kQ (T : List fx_G) (cy : Nat → ClassId) (D : va_G) (gcF : List Nat → Prop) (h0 g sz : Nat) (w0 : va_W) : Array Value → State → Outcome → State → Prop := fun _ st oc t =>
  (oc = .returned none ∧ ∃ (ws : va_W) (gs ad : List Nat), va_P D classes ws t.heap ∧ gs.length = ws.length ∧ gcF gs ∧ fx_wo (gs, T, cy, fun _ => True) ad ws ∧ va_D (va_A w0 sz) ws ∧ ad[0]? = some h0 ∧ gs[0]? = some g) ∧ va_F (va_A w0 sz) st t
def KC (l : Launch) (y : MethodName) (bytes : ByteArray) (nL : Nat) (rm : Room) (mc ms : Nat) (E : (Nat → Prop) → State → Prop) (T : List fx_G) (cy : Nat → ClassId) (D : va_G) (gcF : List Nat → Prop) (ci : Nat) (dv As : List Value) (g : Nat) : Prop := ∀ (h0 sz : Nat),
  Met l y (Cond.code y bytes nL none :: wsL_law) rm (va_Pc (.ref h0 :: As) (fun U => U.heap.size = sz ∧ va_P D classes [(h0, .inr (ci, dv))] U.heap ∧ E (va_A [(h0, .inr (ci, dv))] sz) U)) (kQ T cy D gcF h0 g sz [(h0, .inr (ci, dv))]) mc ms (va_A [(h0, .inr (ci, dv))] sz)
section KCR
variable {l : Launch} {p : Program} {e : Env} {R : Room} {s : State} {m : MethodId} {args : Array Value} {below : List Frame} {meth : Method} {c : Code} {Q : State → Prop} {cc : ByteArray} {nL : Nat} {own : String} {pc pc' : Nat} {lv lv' : List (Nat × Value)} {st : List Value} {cl sl : Nat}
variable {E : (Nat → Prop) → State → Prop} {T : List fx_G} {cy : Nat → ClassId} {D : va_G} {A : Nat → Prop} {H0 : Heap} {gc gc' gcF : List Nat → Prop} {fr : va_W} {rs : List (Nat × Nat)}
theorem g_callc {Qa : State → Outcome → State → Prop} {free A1 : Nat → Prop} {mc ms : Nat} {st0 rest : List Value} {H : Heap} {locs : List Loc} {ls : Array Slot} (hr : va_Run p l e R s m args below meth c H locs cl sl mc ms (F0 m pc ls st0) rest Qa free) (hS : va_S A H0 H locs) (hA : ∀ q, q < H.size → A1 q → A q) (hf : ∀ q, free q → A q) (hQ : ∀ st v t, Qa st (.returned v) t → va_F A1 st t)
    (kk : ∀ (v : Option Value) (st₀ t : State) (H1 : Heap) (locs1 : List Loc), st₀.heap = H → t.heap = H1 → Qa st₀ (.returned v) t → va_S A H0 H1 locs1 → W p l e R s m args below meth c H1 locs1 (cl + mc) (sl + ms) Q (F0 m (pc + 3) ls (v.toList ++ rest))) : W p l e R s m args below meth c H locs cl sl Q (F0 m pc ls st0) := by
  intro T hT X
  obtain ⟨v, st₀, t, T', L, h0, X', hL, e1, e2, hq, st⟩ := hr T hT X
  obtain ⟨hz, hk⟩ := hQ _ _ _ hq
  rw [h0] at hz hk
  obtain ⟨t2, a1, b1⟩ := kk v st₀ t T'.heap (locs ++ L) h0 e1.symm hq
    ⟨Nat.le_trans hS.1 (by rw [e1]; exact hz), fun q h1 h2 => by rw [e1, hk q (Nat.lt_of_lt_of_le h1 hS.1) (fun z => h2 (hA q (Nat.lt_of_lt_of_le h1 hS.1) z))]; exact hS.2.1 q h1 h2, fun q hq => by
      rcases List.mem_append.mp hq with h | h
      · exact hS.2.2 q h
      · exact hf _ (hL q h)⟩ T' rfl X'
  exact ⟨t2, st t2 a1, b1⟩
theorem k_newa (C : gC p s m args c cc nL own) (hK : va_K D classes (tys cy) s) (hA : ∀ q, H0.size ≤ q → A q) {atype : ArrayType} {ty : FieldType} {t0 N' g : Nat} {n : Int} {x : fx_A} {pat : List fx_T} (harr : Cond.arrayClass (newarray.typeOf atype) ∈ wsL_law) (hty : newarray.typeOf atype = ty) (ht : (tys cy)[t0]? = some (cy t0, ty)) (ha : ∀ cA : ClassId, vp_cell cA (N', x) = arrV cA N' (fun _ => defaultValue ty)) (hn : ¬ Int32.ofInt n < 0) (hN : (Int32.ofInt n).toNatClampNeg = N') (hbytes : N' * componentBytes ty ≤ 536870912) (hG : T[g]? = some (.inr (t0, N', pat))) (hsh : fx_sh t0 x) (hel : ∀ (gs ad : List Nat) (j : Nat) (t : fx_T), pat[j % pat.length]? = some t → fx_ok gs ad t (fx_el x j)) (hgc : ∀ gs, gc gs → gc' (gs ++ [g])) (hcells : cl + 1 ≤ R.cells) (hslots : sl + N' ≤ R.slots) (hdg : decode cc pc = .ok (.newarray atype, 2)) (hp : pc + 2 = pc')
    (kk : ∀ b : Nat, GW p l e R s m args below meth c Q cc nL (cl + 1) (sl + N') pc' lv (.ref b :: st) (kP T cy D A H0 gc' fr (rs ++ [(b, g)]))) : GW p l e R s m args below meth c Q cc nL cl sl pc lv (zv n :: st) (kP T cy D A H0 gc fr rs) := fun H locs ls hl hh => by
  subst hp
  obtain ⟨pl, gs, ad, h1, h2, h3, h4, h5, h6, h7⟩ := hh
  refine xa_newa (a0 := (N', x)) C.1 C.2.1 (C.2.2.2.1 _ harr) hty hK t0 ht h5 h6 h7 hA ha hn hN hbytes hcells hslots hdg (fun q H1 hP hD hS => ?_)
  rw [List.append_assoc] at hP hD
  refine kk q H1 _ ls hl ⟨pl ++ [(q, .inl (cy t0, N', x))], gs ++ [g], ad ++ [q], hgc gs h1, by simp [h2], wo_app h3 h2 (I := fun _ => True) (J := fun _ => True) ⟨rfl, fun k a e' hk => ?_⟩, fun u hu => ?_, hP, hD, hS⟩
  · have hz : k < 1 := (List.getElem?_eq_some_iff.mp hk).1
    rw [show k = 0 by omega] at hk ⊢
    cases hk
    exact ⟨g, _, rfl, hG, rfl, rfl, hsh, fun j t _ ht => hel _ _ j t ht⟩
  · rcases List.mem_append.mp hu with h | h
    · exact rt_l (h4 u h)
    · rw [List.mem_singleton.mp h]
      exact rt_r (by rw [h2, wo_len h3]) ⟨0, rfl, rfl⟩
theorem k_new (C : gC p s m args c cc nL own) (hK : va_K D classes (tys cy) s) (hA : ∀ q, H0.size ≤ q → A q) {C0 : String} {T0 : u_T} {N ci index : Nat} (hin : ∀ w ∈ u_ws C0 T0 N, w ∈ wsL_law) (ty : Nat → FieldType) (hty : ∀ k, k < N → parseFieldDescriptor (T0 k).2.2.1 = some (ty k)) (hcl : Cond.classLink own index C0 ∈ wsL_law) (hinst : Cond.instantiable C0 N ∈ wsL_law) (hini : Cond.initialized C0 ∈ wsL_law) (hc : classes[ci]? = some (C0, T0, N)) {fs : List Value} (hfs : ∀ j, j < N → defaultValue (ty j) = vp_V fs j) (hcells : cl + 1 ≤ R.cells) (hslots : sl + N ≤ R.slots) (hdg : decode cc pc = .ok (.new index, 3)) (hp : pc + 3 = pc')
    (kk : ∀ b : Nat, GW p l e R s m args below meth c Q cc nL (cl + 1) (sl + N) pc' lv (.ref b :: st) (kP T cy D A H0 gc (fr ++ [(b, .inr (ci, fs))]) rs)) : GW p l e R s m args below meth c Q cc nL cl sl pc lv st (kP T cy D A H0 gc fr rs) := fun H locs ls hl hh => by
  subst hp
  obtain ⟨pl, gs, ad, h1, h2, h3, h4, h5, h6, h7⟩ := hh
  refine va_new (ci := ci) (fs := fs) C.1 C.2.1 C.2.2.2.1 hin ty hty C.2.2.2.2.1 (C.2.2.2.1 _ hcl) (C.2.2.2.1 _ hinst) (C.2.2.2.1 _ hini) hK h5 h6 h7 hA hc hfs hcells hslots hdg (fun q H1 hP hD hS => ?_)
  exact kk q H1 _ ls hl ⟨pl, gs, ad, h1, h2, h3, h4, hP.swap, hD.swap, hS⟩
theorem k_newq (C : gC p s m args c cc nL own) (hK : va_K D classes (tys cy) s) (hA : ∀ q, H0.size ≤ q → A q) {C0 : String} {index t0 N' : Nat} {n : Int} (hclink : Cond.classLink own index C0 ∈ wsL_law) (hover : va_AO C0 s) (ht : (tys cy)[t0]? = some (cy t0, .object C0)) (hn : ¬ Int32.ofInt n < 0) (hN : (Int32.ofInt n).toNatClampNeg = N') (hbytes : N' * 4 ≤ 536870912) (hcells : cl + 1 ≤ R.cells) (hslots : sl + N' ≤ R.slots) (hdg : decode cc pc = .ok (.anewarray index, 3)) (hp : pc + 3 = pc')
    (kk : ∀ b : Nat, GW p l e R s m args below meth c Q cc nL (cl + 1) (sl + N') pc' lv (.ref b :: st) (kP T cy D A H0 gc (fr ++ [(b, .inl (cy t0, N', .inr (.inr (.inr (.inr (fun _ => none))))))]) rs)) : GW p l e R s m args below meth c Q cc nL cl sl pc lv (zv n :: st) (kP T cy D A H0 gc fr rs) := fun H locs ls hl hh => by
  subst hp
  obtain ⟨pl, gs, ad, h1, h2, h3, h4, h5, h6, h7⟩ := hh
  refine xa_newq C.1 C.2.1 C.2.2.2.2.1 (C.2.2.2.1 _ hclink) hover hK t0 ht h5 h6 h7 hA hn hN hbytes hcells hslots hdg (fun q H1 hP hD hS => ?_)
  exact kk q H1 _ ls hl ⟨pl, gs, ad, h1, h2, h3, h4, hP.swap, hD.swap, hS⟩
/-- a constructor called for a new object, the last in front -/
theorem k_init (C : gC p s m args c cc nL own) (hE : fx_env E D classes (tys cy) nestW) (hEs : E A s) (hH0 : H0 = s.heap) (hA : ∀ q, H0.size ≤ q → A q) {y : MethodName} {bytes : ByteArray} {nL' mc ms frm lo ci g n index b : Nat} {dv As rest : List Value} (hk : KC l y bytes nL' ({ frames := frm, cells := mc, slots := ms, locals := lo }) mc ms E T cy D gcF ci dv As g) (hgc : ∀ gs gs', gc gs → gcF gs' → gc' (gs ++ gs'))
    (cw : CallB R s args own index y bytes nL' none (Cond.code y bytes nL' none :: wsL_law) ({ frames := frm, cells := mc, slots := ms, locals := lo }) mc ms n ∧ y.name = "<init>" ∧ (Cond.instanceMethod y).before args s = true) (hn : As.length = n) (hst : st = As.reverse ++ .ref b :: rest) (hsum : (rest.map fun v => v.category).sum ≤ 8) (hdg : decode cc pc = .ok (.invokespecial index, 3)) (hf : cl + mc ≤ R.cells ∧ sl + ms ≤ R.slots) (hp : pc + 3 = pc')
    (kk : GW p l e R s m args below meth c Q cc nL (cl + mc) (sl + ms) pc' lv rest (kP T cy D A H0 gc' fr (rs ++ [(b, g)]))) : GW p l e R s m args below meth c Q cc nL cl sl pc lv st (kP T cy D A H0 gc (fr ++ [(b, .inr (ci, dv))]) rs) := fun H locs ls hl hh => by
  subst hp
  obtain ⟨pl, gs, ad, h1, h2, h3, h4, h5, h6, h7⟩ := hh
  have hb0 : ((fr ++ [(b, .inr (ci, dv))]) ++ pl : va_W)[fr.length]? = some (b, .inr (ci, dv)) := by
    rw [List.getElem?_append_left (by simp), List.getElem?_append_right (Nat.le_refl _), Nat.sub_self]; rfl
  have hbl : b < H.size := (h5 _ _ hb0).lt
  have hbA : A b := h6.2 _ _ hb0
  have hPc : va_P D classes [(b, .inr (ci, dv))] H := fun k q hk' => by
    have hz : k < 1 := (List.getElem?_eq_some_iff.mp hk').1
    rw [show k = 0 by omega] at hk'
    cases hk'
    exact h5 _ _ hb0
  have hsub : ∀ q, va_A [(b, .inr (ci, dv))] H.size q → A q := fun q hq => by
    rcases hq with ⟨k, e', hq⟩ | hq
    · have hz : k < 1 := (List.getElem?_eq_some_iff.mp hq).1
      rw [show k = 0 by omega] at hq
      cases hq
      exact hbA
    · exact hA q (Nat.le_trans h7.1 hq)
  refine g_callc (A := A) (H0 := H0) (A1 := va_A [(b, .inr (ci, dv))] H.size) (va_runI (As := As) (rest := rest) (b := b) ⟨C.1, C.2.1, C.2.2.1, C.2.2.2.2.1, C.2.2.2.1⟩ (hk b H.size) cw ⟨fun a U g mk q => ?_, fun U hU hW => ?_⟩ rfl hn hl.1 hst (lv_room hsum) hdg hf) h7 (fun q _ hq => hsub q hq) hsub (fun st v t h => h.2) (fun v st₀ t H1 locs1 e0 e1 hq hS1 => ?_)
  · obtain ⟨q0, q1, q2, q3⟩ := q
    exact ⟨q0, q1, q2, hE.2.2 _ _ _ _ _ q3⟩
  · exact ⟨rfl, by rw [hU], by rw [hU]; exact hPc, hE.2.1 A _ _ _ hW (fun a h1 h2 => by rw [hU]; have := h7.2.1 a (by rw [hH0]; exact h1) h2; rw [this, hH0]) hsub hEs⟩
  · obtain ⟨⟨e2, wN, gN, aN, n1, n2, n3, n4, n5, n6, n7⟩, hF⟩ := hq
    cases e2
    rw [e1] at n1
    have hk1 : ∀ q : Nat, q < H.size → ¬ va_A [(b, .inr (ci, dv))] H.size q → H1[q]? = H[q]? := fun q q1 q2 => by rw [← e1, ← e0]; exact hF.2 q (by rw [e0]; exact q1) q2
    have hkeep : ∀ (k : Nat) (q : Nat × va_E), (fr ++ pl)[k]? = some q → q.1 < H.size ∧ q.1 ≠ b ∧ A q.1 := fun k q hk' => by
      obtain ⟨k', hk2, hne⟩ : ∃ k', ((fr ++ [(b, .inr (ci, dv))]) ++ pl : va_W)[k']? = some q ∧ k' ≠ fr.length := by
        by_cases hlt : k < fr.length
        · refine ⟨k, ?_, by omega⟩
          rw [List.getElem?_append_left hlt] at hk'
          rw [List.getElem?_append_left (by simp; omega), List.getElem?_append_left hlt]; exact hk'
        · refine ⟨k + 1, ?_, by omega⟩
          rw [List.getElem?_append_right (by omega)] at hk'
          rw [List.getElem?_append_right (by simp; omega)]
          have : k + 1 - (fr ++ [(b, Sum.inr (ci, dv))] : va_W).length = k - fr.length := by simp
          rw [this]; exact hk'
      exact ⟨(h5 _ _ hk2).lt, fun h => hne (h6.1 _ _ _ _ hk2 hb0 h), h6.2 _ _ hk2⟩
    have hnA : ∀ (k : Nat) (q : Nat × va_E), (fr ++ pl)[k]? = some q → ¬ va_A [(b, .inr (ci, dv))] H.size q.1 := fun k q hk' hq => by
      obtain ⟨u1, u2, u3⟩ := hkeep k q hk'
      rcases hq with ⟨k2, e', hq⟩ | hq
      · have hz : k2 < 1 := (List.getElem?_eq_some_iff.mp hq).1
        rw [show k2 = 0 by omega] at hq
        exact u2 (by have := congrArg (fun o => o.map Prod.fst) hq; simpa using this.symm)
      · omega
    have hPb : va_P D classes (fr ++ pl) H := fun k q hk' => by
      by_cases hlt : k < fr.length
      · rw [List.getElem?_append_left hlt] at hk'
        exact h5 k q (by rw [List.getElem?_append_left (by simp; omega), List.getElem?_append_left hlt]; exact hk')
      · rw [List.getElem?_append_right (by omega)] at hk'
        refine h5 (k + 1) q ?_
        rw [List.getElem?_append_right (by simp; omega)]
        have : k + 1 - (fr ++ [(b, Sum.inr (ci, dv))] : va_W).length = k - fr.length := by simp
        rw [this]; exact hk'
    have hP1 : va_P D classes (fr ++ pl) H1 := hPb.kept (fun k q hk' => hk1 q.1 (hkeep k q hk').1 (hnA k q hk'))
    have hDb : va_D A (fr ++ pl) := by
      refine ⟨fun i j u v hi hj huv => ?_, fun k q hk' => (hkeep k q hk').2.2⟩
      have key : ∀ (k : Nat) (q : Nat × va_E), (fr ++ pl)[k]? = some q → ((fr ++ [(b, .inr (ci, dv))]) ++ pl : va_W)[if k < fr.length then k else k + 1]? = some q := fun k q hk' => by
        by_cases hlt : k < fr.length
        · rw [if_pos hlt]
          rw [List.getElem?_append_left hlt] at hk'
          rw [List.getElem?_append_left (by simp; omega), List.getElem?_append_left hlt]; exact hk'
        · rw [if_neg hlt]
          rw [List.getElem?_append_right (by omega)] at hk'
          rw [List.getElem?_append_right (by simp; omega)]
          have : k + 1 - (fr ++ [(b, Sum.inr (ci, dv))] : va_W).length = k - fr.length := by simp
          rw [this]; exact hk'
      have := h6.1 _ _ _ _ (key i u hi) (key j v hj) huv
      split at this <;> split at this <;> omega
    have hDn : va_D A wN := n5.weaken (fun k q _ hq => hsub _ hq)
    have hDt : va_D A ((fr ++ pl) ++ wN) := hDb.app hDn (fun i j u v hi hj huv => hnA i u hi (by rw [huv]; exact n5.2 j v hj))
    have hPt : va_P D classes ((fr ++ pl) ++ wN) H1 := hP1.app n1
    rw [List.append_assoc] at hPt hDt
    refine kk H1 locs1 ls hl ⟨pl ++ wN, gs ++ gN, ad ++ aN, hgc gs gN h1 n3, by simp [h2, n2], wo_app h3 h2 n4, fun u hu => ?_, hPt, hDt, hS1⟩
    rcases List.mem_append.mp hu with h | h
    · exact rt_l (h4 u h)
    · rw [List.mem_singleton.mp h]
      exact rt_r (by rw [h2, wo_len h3]) ⟨0, n6, n7⟩
theorem k_ret {h0 g sz : Nat} {w0 : va_W} {gf : List Nat} (C : gC p s m args c cc nL own) (hlocks : meth.locks = false) (hr : meth.sig.returnType = none) (hdg : decode cc pc = .ok (.return_, 1)) (hsz : sz = s.heap.size) (hh0 : H0 = s.heap) (hAe : A = va_A w0 sz) (hfr : (fr.map Prod.fst)[0]? = some h0) (hgf : gf[0]? = some g) (hlen : gf.length = fr.length) (hgc : ∀ gs, gc gs → gcF (gf ++ gs)) (hfin : ∀ gs ad : List Nat, (∀ q ∈ rs, rt (gf ++ gs) (fr.map Prod.fst ++ ad) q) → frs T cy (gf ++ gs) (fr.map Prod.fst ++ ad) gf fr) :
    GW p l e R s m args below meth c (MQ below (kQ T cy D gcF h0 g sz w0) args s cl sl (va_A w0 sz)) cc nL cl sl pc lv [] (kP T cy D A H0 gc fr rs) := fun H locs ls hl hh => by
  obtain ⟨pl, gs, ad, h1, h2, h3, h4, h5, h6, h7⟩ := hh
  subst hsz hAe hh0
  obtain ⟨e1, hf⟩ := frs_ok (hfin gs ad (fun q hq => rt_r (by rw [List.length_map]; exact hlen) (h4 q hq)))
  have hwo := wo_fin (K := fun _ => True) h3 e1 hf
  refine W.vret C.1 C.2.1 hr (fun t ht hW => ⟨⟨rfl, fr ++ pl, gf ++ gs, fr.map Prod.fst ++ ad, by rw [ht]; exact h5, by simp [hlen, h2], hgc gs h1, hwo, h6, ?_, ?_⟩, h7.F ht⟩) (fun q hq => h7.2.2 q hq) hdg
  · rw [List.getElem?_append_left (List.getElem?_eq_some_iff.mp hfr).1]; exact hfr
  · rw [List.getElem?_append_left (List.getElem?_eq_some_iff.mp hgf).1]; exact hgf
theorem fr_at {q0 : Nat} {x : Nat × va_E} {fr pl : va_W} (h : fr[q0]? = some x) : (fr ++ pl)[q0]? = some x := by
  rw [List.getElem?_append_left (List.getElem?_eq_some_iff.mp h).1]; exact h
theorem fr_set {q0 : Nat} {x y : Nat × va_E} {fr pl : va_W} (h : fr[q0]? = some x) : (fr ++ pl).set q0 y = fr.set q0 y ++ pl := List.set_append_left _ _ (List.getElem?_eq_some_iff.mp h).1
theorem k_put (C : gC p s m args c cc nL own) (hK : va_K D classes (tys cy) s) {ref C0 : String} {T0 : u_T} {N ci index a : Nat} (hin : ∀ w ∈ u_ws C0 T0 N, w ∈ wsL_law) (ty0 : Nat → FieldType) (hty : ∀ k, k < N → parseFieldDescriptor (T0 k).2.2.1 = some (ty0 k)) (hnm : ∀ a, a < N → ∀ b, b < N → a ≠ b → (T0 a).2.1 ≠ (T0 b).2.1) (q0 : Nat) {fs : List Value} {fr' : va_W} (he : fr[q0]? = some (a, .inr (ci, fs))) (hc : classes[ci]? = some (C0, T0, N)) (k : Nat) (hk : k < N) (hlink : Cond.fieldLink own index ref (T0 k).2.1 (T0 k).2.2.1 ∈ wsL_law) (hsame : ∀ x, s.fieldFound? (T0 k).1 (T0 k).2.1 (T0 k).2.2.1 = some x → s.fieldFound? ref (T0 k).2.1 (T0 k).2.2.1 = some x) (hfin : (T0 k).2.2.2 = false) {ty : FieldType} {v : Value} (hd : parseFieldDescriptor (T0 k).2.2.1 = some ty) (hn : narrow ty v = v) (hfit : fits ty v = true) (hl0 : k < fs.length) (hdg : decode cc pc = .ok (.putfield index, 3)) (hfr : fr.set q0 (a, .inr (ci, fs.set k v)) = fr') (hp : pc + 3 = pc')
    (kk : GW p l e R s m args below meth c Q cc nL cl sl pc' lv st (kP T cy D A H0 gc fr' rs)) : GW p l e R s m args below meth c Q cc nL cl sl pc lv (v :: .ref a :: st) (kP T cy D A H0 gc fr rs) := fun H locs ls hl hh => by
  subst hp hfr
  obtain ⟨pl, gs, ad, h1, h2, h3, h4, h5, h6, h7⟩ := hh
  refine va_put C.1 C.2.1 C.2.2.2.1 hin ty0 hty hnm C.2.2.2.2.1 hK h5 h6 h7 q0 (fr_at he) hc k hk (C.2.2.2.1 _ hlink) hsame hfin hd hn hfit hl0 hdg (fun H1 locs1 hP hD hS => ?_)
  rw [fr_set he] at hP hD
  exact kk H1 locs1 ls hl ⟨pl, gs, ad, h1, h2, h3, h4, hP, hD, hS⟩
theorem k_putF (C : gC p s m args c cc nL own) (hK : va_K D classes (tys cy) s) {ref C0 : String} {T0 : u_T} {N ci index a : Nat} (hin : ∀ w ∈ u_ws C0 T0 N, w ∈ wsL_law) (ty0 : Nat → FieldType) (hty : ∀ k, k < N → parseFieldDescriptor (T0 k).2.2.1 = some (ty0 k)) (hnm : ∀ a, a < N → ∀ b, b < N → a ≠ b → (T0 a).2.1 ≠ (T0 b).2.1) (q0 : Nat) {fs : List Value} {fr' : va_W} (he : fr[q0]? = some (a, .inr (ci, fs))) (hc : classes[ci]? = some (C0, T0, N)) (k : Nat) (hk : k < N) (hlink : Cond.fieldLink own index ref (T0 k).2.1 (T0 k).2.2.1 ∈ wsL_law) (hsame : ∀ x, s.fieldFound? (T0 k).1 (T0 k).2.1 (T0 k).2.2.1 = some x → s.fieldFound? ref (T0 k).2.1 (T0 k).2.2.1 = some x) (hfin : (T0 k).2.2.2 = true) (hin2 : meth.name = "<init>") (hdecl : (T0 k).1 = own) {ty : FieldType} {v : Value} (hd : parseFieldDescriptor (T0 k).2.2.1 = some ty) (hn : narrow ty v = v) (hfit : fits ty v = true) (hl0 : k < fs.length) (hdg : decode cc pc = .ok (.putfield index, 3)) (hfr : fr.set q0 (a, .inr (ci, fs.set k v)) = fr') (hp : pc + 3 = pc')
    (kk : GW p l e R s m args below meth c Q cc nL cl sl pc' lv st (kP T cy D A H0 gc fr' rs)) : GW p l e R s m args below meth c Q cc nL cl sl pc lv (v :: .ref a :: st) (kP T cy D A H0 gc fr rs) := fun H locs ls hl hh => by
  subst hp hfr
  obtain ⟨pl, gs, ad, h1, h2, h3, h4, h5, h6, h7⟩ := hh
  refine va_putF C.1 C.2.1 C.2.2.2.1 hin ty0 hty hnm C.2.2.2.2.1 hK h5 h6 h7 q0 (fr_at he) hc k hk (C.2.2.2.1 _ hlink) hsame hfin hin2 hdecl hd hn hfit hl0 hdg (fun H1 locs1 hP hD hS => ?_)
  rw [fr_set he] at hP hD
  exact kk H1 locs1 ls hl ⟨pl, gs, ad, h1, h2, h3, h4, hP, hD, hS⟩
theorem k_get (C : gC p s m args c cc nL own) (hK : va_K D classes (tys cy) s) {ref C0 : String} {T0 : u_T} {N ci index a : Nat} (hin : ∀ w ∈ u_ws C0 T0 N, w ∈ wsL_law) (q0 : Nat) {fs : List Value} (he : fr[q0]? = some (a, .inr (ci, fs))) (hc : classes[ci]? = some (C0, T0, N)) (k : Nat) (hk : k < N) (hlink : Cond.fieldLink own index ref (T0 k).2.1 (T0 k).2.2.1 ∈ wsL_law) (hsame : ∀ x, s.fieldFound? (T0 k).1 (T0 k).2.1 (T0 k).2.2.1 = some x → s.fieldFound? ref (T0 k).2.1 (T0 k).2.2.1 = some x) {v : Value} (hv : fs[k]? = some v) (hdg : decode cc pc = .ok (.getfield index, 3)) (hp : pc + 3 = pc')
    (kk : GW p l e R s m args below meth c Q cc nL cl sl pc' lv (v :: st) (kP T cy D A H0 gc fr rs)) : GW p l e R s m args below meth c Q cc nL cl sl pc lv (.ref a :: st) (kP T cy D A H0 gc fr rs) := fun H locs ls hl hh => by
  subst hp
  have hh' := hh
  obtain ⟨pl, gs, ad, h1, h2, h3, h4, h5, h6, h7⟩ := hh'
  exact va_get C.1 C.2.1 C.2.2.2.1 hin C.2.2.2.2.1 hK h5 q0 (fr_at he) hc k hk (C.2.2.2.1 _ hlink) hsame hv hdg (kk H locs ls hl hh)
theorem k_aast (C : gC p s m args c cc nL own) (hK : va_K D classes (tys cy) s) (q0 t0 : Nat) {n v g ci a : Nat} {ts : List fx_T} {r : vw_C} {f : Nat → Option Nat} {fr' : va_W} {i : Int} (he : fr[q0]? = some (a, .inl (cy t0, n, .inr (.inr (.inr (.inr f)))))) (ht : (tys cy)[t0]? = some (cy t0, .object r.1)) (hv : (v, g) ∈ rs) (hT : T[g]? = some (.inl (ci, ts))) (hc : classes[ci]? = some r) (h0 : 0 ≤ i) (h1 : i < n) (hn : n ≤ 100000) (hdg : decode cc pc = .ok (.aastore, 1)) (hfr : fr.set q0 (a, .inl (cy t0, n, .inr (.inr (.inr (.inr (va_up f i.toNat (some v))))))) = fr') (hp : pc + 1 = pc')
    (kk : GW p l e R s m args below meth c Q cc nL cl sl pc' lv st (kP T cy D A H0 gc fr' rs)) : GW p l e R s m args below meth c Q cc nL cl sl pc lv (.ref v :: zv i :: .ref a :: st) (kP T cy D A H0 gc fr rs) := fun H locs ls hl hh => by
  subst hp hfr
  obtain ⟨pl, gs, ad, k1, k2, k3, k4, k5, k6, k7⟩ := hh
  obtain ⟨k, ka, kg⟩ := k4 _ hv
  have hpk : ∃ e0, pl[k]? = some (v, e0) := by
    rw [← k3.1, List.getElem?_map] at ka
    cases hq : pl[k]? with
    | none => rw [hq] at ka; cases ka
    | some q => rw [hq] at ka; cases ka; exact ⟨q.2, rfl⟩
  obtain ⟨e0, hpk⟩ := hpk
  obtain ⟨g', G', m1, m2, m3⟩ := k3.2 k v e0 hpk
  have e1 : g' = g := Option.some.inj (m1.symm.trans kg)
  subst e1
  have m2' : T[g']? = some G' := m2
  rw [hT] at m2'
  cases m2'
  obtain ⟨vs, rfl⟩ : ∃ vs, e0 = .inr (ci, vs) := by
    rcases e0 with x | ⟨c', vs⟩
    · exact False.elim m3
    · obtain ⟨rfl, -⟩ := m3; exact ⟨vs, rfl⟩
  have en := zv_n h0 (show i ≤ 2147483647 by omega)
  have hvk : (fr ++ pl)[fr.length + k]? = some (v, .inr (ci, vs)) := by
    rw [List.getElem?_append_right (Nat.le_add_right _ _), Nat.add_sub_cancel_left]; exact hpk
  refine va_astq C.1 C.2.1 hK k5 k6 k7 q0 t0 (fr.length + k) ci (fr_at he) ht hvk hc (vp_in_iff.mpr ⟨by rw [zv_i ⟨by omega, by omega⟩]; omega, by rw [zv_i ⟨by omega, by omega⟩]; omega⟩) hdg (fun H1 locs1 hP hD hS => ?_)
  rw [en, fr_set he] at hP hD
  exact kk H1 locs1 ls hl ⟨pl, gs, ad, k1, k2, k3, k4, hP, hD, hS⟩
theorem k_obj {ws : Heap → List Loc → Prop} (C : gC p s m args c cc nL own) {idx a : Nat} (hlink : Cond.methodLink own idx Lib.objectInit ∈ wsL_law) (hinst : Cond.instanceMethod Lib.objectInit ∈ wsL_law) (hcode : Cond.code Lib.objectInit ⟨#[0xb1]⟩ 1 none ∈ wsL_law) (hd : decode cc pc = .ok (.invokespecial idx, 3)) (hframes : 1 ≤ R.frames) (hlocals : 12 ≤ R.locals) (hp : pc + 3 = pc') (kk : GW p l e R s m args below meth c Q cc nL cl sl pc' lv [] ws) : GW p l e R s m args below meth c Q cc nL cl sl pc lv [.ref a] ws := fun H locs ls hl hh => by
  subst hp
  refine W.objInit C.1 C.2.1 C.2.2.2.2.1 (C.2.2.2.1 _ hlink) (C.2.2.2.1 _ hinst) (C.2.2.2.1 _ hcode) rfl (by rw [C.2.2.1]; exact hl.1) rfl hd hframes (by simpa [F0] using hlocals) ?_
  exact W.eq (g2 := F0 m (pc + 3) ls []) rfl (kk H locs ls hl hh)
theorem k_of {y : MethodName} {bytes : ByteArray} {mc ms frm lo ci g : Nat} {dv As : List Value} (hg0 : gc []) (hy : plainName y.cls = true) (hyn : y.name = "<init>") (hlen : ∀ h0 : Nat, (lg_sl (.ref h0 :: As)).length ≤ nL)
    (hbody : ∀ (h0 : Nat) (p : Program) (e : Env) (s : State) (m : MethodId) (below : List Frame) (meth : Method) (c : Code), meth.locks = false → meth.sig.returnType = none → meth.name = "<init>" → gC p s m (.ref h0 :: As).toArray c bytes nL y.cls → E (va_A [(h0, .inr (ci, dv))] s.heap.size) s → (∀ q, s.heap.size ≤ q → va_A [(h0, .inr (ci, dv))] s.heap.size q) →
      GW p l e ({ frames := frm, cells := mc, slots := ms, locals := lo }) s m (.ref h0 :: As).toArray below meth c (MQ below (kQ T cy D gcF h0 g s.heap.size [(h0, .inr (ci, dv))]) (.ref h0 :: As).toArray s mc ms (va_A [(h0, .inr (ci, dv))] s.heap.size)) bytes nL 0 0 0 (lv_args 0 (.ref h0 :: As)) [] (kP T cy D (va_A [(h0, .inr (ci, dv))] s.heap.size) s.heap gc [(h0, .inr (ci, dv))] [])) :
    KC l y bytes nL ({ frames := frm, cells := mc, slots := ms, locals := lo }) mc ms E T cy D gcF ci dv As g := by
  intro h0 sz
  refine Met.ofW (cc := bytes) (maxL := nL) (ret := none) hy rfl ?_
  intro p e s m args below meth c s₁ B hml hv
  obtain ⟨rfl, hsz, hP, hEs⟩ := hv
  subst hsz
  have hts0 := atoms_spec (ws := Cond.code y bytes nL none :: wsL_law) B.pre
  have hin : meth.name = "<init>" := (name_of_methodNamed B.named B.method).1.trans hyn
  have hw := hbody h0 p e s m below meth c B.notSynchronized B.returns hin ⟨B.exec, B.bytes, hml, fun w h => hts0 w (List.mem_cons_of_mem _ h), findClass_of_methodNamed B.named, trivial⟩ hEs (fun q hq => Or.inr hq)
  have hl := lv_entry (.ref h0 :: As) (n := nL) (hlen h0)
  rw [lg_entry_eq]
  refine hw s.heap [] _ hl ⟨[], [], [], hg0, rfl, ⟨rfl, fun k a e hk => by simp at hk⟩, (fun q hq => by simp at hq), (by rw [List.append_nil]; exact hP), ?_, va_S.rf⟩
  rw [List.append_nil]
  refine ⟨fun i j u v hi hj _ => ?_, fun k q hk => va_A.in hk⟩
  have h1 : i < 1 := (List.getElem?_eq_some_iff.mp hi).1
  have h2 : j < 1 := (List.getElem?_eq_some_iff.mp hj).1
  omega
end KCR
