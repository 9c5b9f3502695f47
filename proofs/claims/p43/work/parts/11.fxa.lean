-- contracts and calls
abbrev fx_P : Type := Option fx_T × List fx_T × List fx_Q
abbrev fx_C : Type := List fx_T × List fx_Q × List fx_P × List (Nat × Nat)
def fx_po (Y : fx_Y) (ad : List Nat) (po : fx_P) (av : List Value) (ws1 : va_W) (rv : Option Value) : Prop := (match po.1 with
    | none => rv = none
    | some t => ∃ v, rv = some v ∧ fx_ok Y.1 ad t v) ∧ fx_ty Y ad po.2.1 av ∧ ∃ rt, fx_fs Y ad ws1 av po.2.2 rt
def fx_Qc (Y : fx_Y) (ad : List Nat) (D : va_G) (cl : List vw_C) (c : fx_C) (av : List Value) (ws : va_W) (sz : Nat) : Array Value → State → Outcome → State → Prop := fun _ st oc t =>
  (∃ (ws1 : va_W) (rv : Option Value), oc = .returned rv ∧ va_P D cl ws1 t.heap ∧ fx_wo Y ad ws1 ∧ Y.2.2.2 ws1 ∧ fx_sm Y c.2.2.2 ws ws1 ∧ ∃ po ∈ c.2.2.1, fx_po Y ad po av ws1 rv) ∧ va_F (va_A ws sz) st t
def fx_Met (l : Launch) (y : MethodName) (wm : List Cond) (rm : Room) (E : (Nat → Prop) → State → Prop) (Y : fx_Y) (ad : List Nat) (D : va_G) (cl : List vw_C) (c : fx_C) : Prop := ∀ (av : List Value) (ws : va_W) (sz : Nat) (rt : List Value), fx_ty Y ad c.1 av → fx_fs Y ad ws av c.2.1 rt → fx_wo Y ad ws → Y.2.2.2 ws → va_D (fun _ => True) ws →
  Met l y wm rm (va_Pc av (fun U => U.heap.size = sz ∧ va_P D cl ws U.heap ∧ E (va_A ws sz) U)) (fx_Qc Y ad D cl c av ws sz) 0 0 (va_A ws sz)
def fx_rp : List fx_T → List fx_V → List fx_T → Option (List fx_T)
  | G, a :: as, t :: ts => match t with
    | .inl i => (fx_rf G a i).bind fun G => fx_rp G as ts
    | .inr (.inl i) => (fx_rl G a i).bind fun G => fx_rp G as ts
    | _ => fx_rp G as ts
  | G, _, _ => some G
theorem fx_rl_ok2 {Y : fx_Y} {ad : List Nat} {G : List fx_T} {r : List Value} {a : fx_V} {i : Int × Int} {x : Int64} (h : fx_ty Y ad G r) (hv : fx_v r a = some (.long x)) (h1 : i.1 ≤ x.toInt) (h2 : x.toInt ≤ i.2) : ∃ G', fx_rl G a i = some G' ∧ fx_ty Y ad G' r := by
  cases hG : G[a.1]? with
  | none => exact ⟨G, by unfold fx_rl; rw [hG], h⟩
  | some t =>
    rcases t with j | j | j
    · exact ⟨G, by unfold fx_rl; rw [hG], h⟩
    · exact fx_rl_ok h hG (fx_kl h hv hG).1 h1 h2
    · exact ⟨G, by unfold fx_rl; rw [hG], h⟩
theorem fx_rp_ok {Y : fx_Y} {ad : List Nat} {r : List Value} : ∀ (as : List fx_V) (ts : List fx_T) (av : List Value) (G : List fx_T), fx_ty Y ad G r → fx_st r as av → (∀ (i : Nat) (t : fx_T), ts[i]? = some t → ∃ v, av[i]? = some v ∧ fx_ok Y.1 ad t v) → ∃ G', fx_rp G as ts = some G' ∧ fx_ty Y ad G' r
  | [], ts, av, G, hG, hs, ht => ⟨G, by cases ts <;> rfl, hG⟩
  | a :: as, [], av, G, hG, hs, ht => ⟨G, rfl, hG⟩
  | a :: as, t :: ts, av, G, hG, hs, ht => by
    obtain ⟨v, av', rfl, h1, h2⟩ := fx_st_cons hs
    obtain ⟨v', e, hv⟩ := ht 0 t rfl
    simp only [List.getElem?_cons_zero, Option.some.injEq] at e
    subst e
    have ht' : ∀ (i : Nat) (t : fx_T), ts[i]? = some t → ∃ v, av'[i]? = some v ∧ fx_ok Y.1 ad t v := fun i t hi => by
      have := ht (i + 1) t (by simpa using hi)
      simpa using this
    rcases t with i | i | i
    · obtain ⟨x, rfl, x1, x2⟩ := hv
      obtain ⟨G1, e1, t1⟩ := fx_rf_ok hG h1 x1 x2
      simp only [fx_rp, e1, Option.bind_some]
      exact fx_rp_ok as ts av' G1 t1 h2 ht'
    · obtain ⟨x, rfl, x1, x2⟩ := hv
      obtain ⟨G1, e1, t1⟩ := fx_rl_ok2 hG h1 x1 x2
      simp only [fx_rp, e1, Option.bind_some]
      exact fx_rp_ok as ts av' G1 t1 h2 ht'
    · simp only [fx_rp]
      exact fx_rp_ok as ts av' G hG h2 ht'
/-- the facts that a call leaves -/
def fx_sv (T : List fx_G) (G : List fx_T) (md : List (Nat × Nat)) (F : List fx_F) : List fx_F := F.filter fun f => match fx_gr G (f.1, 0) with
  | some g => match T[g]? with
    | some (.inl q) => !(md.contains (q.1, f.2.1))
    | some (.inr _) => !(md.contains (1000, g))
    | none => false
  | none => false
theorem fx_sv_ok {Y : fx_Y} {ad : List Nat} {G : List fx_T} {r : List Value} {A : Nat → Prop} {ws ws1 : va_W} {md : List (Nat × Nat)} {F : List fx_F} (ht : fx_ty Y ad G r) (hw : fx_wo Y ad ws) (hD : va_D A ws) (hm : fx_sm Y md ws ws1) (hF : ∀ f ∈ F, fx_fa r ws f) : ∀ f ∈ fx_sv Y.2.1 G md F, fx_fa r ws1 f := by
  intro f hf
  obtain ⟨m1, m2⟩ := List.mem_filter.mp hf
  obtain ⟨a, k, e, v, h1, h2, h3, h4⟩ := hF f m1
  split at m2
  · rename_i g hg
    obtain ⟨k2, b2, e2, T, z1, z2, z3, z4, z5, z6⟩ := fx_cell (a := (f.1, 0)) (v := .ref a) ht (fx_v_0 h1) hg hw
    cases z1
    have ek := hD.1 _ _ _ _ z3 h2 rfl
    subst ek
    rw [h2] at z3
    cases z3
    split at m2
    · rename_i q hq
      rw [hq] at z5
      cases z5
      obtain ⟨vs, rfl, -⟩ := fx_obj z6
      obtain ⟨vs', y1, y2⟩ := hm.1 _ _ _ _ h2
      refine ⟨a, k2, _, v, h1, y1, ?_, h4⟩
      show vs'[f.2.1]? = some v
      rw [y2 _ (fun c => by simp at m2; exact m2 c)]
      exact h3
    · rename_i q hq
      rw [hq] at z5
      cases z5
      obtain ⟨x, rfl, -⟩ := fx_arr z6
      exact ⟨a, k2, _, v, h1, hm.2 _ _ _ _ h2 z4 (fun c => by simp at m2; exact m2 c), h3, h4⟩
    · cases m2
  · cases m2
def fx_tys (G : List fx_T) : List fx_V → List fx_T → Bool
  | a :: as, t :: ts => fx_sbt G a t && fx_tys G as ts
  | [], [] => true
  | _, _ => false
theorem fx_tys_ok {Y : fx_Y} {ad : List Nat} {G : List fx_T} {r : List Value} (hG : fx_ty Y ad G r) : ∀ (as : List fx_V) (ts : List fx_T) (av : List Value), fx_tys G as ts = true → fx_st r as av → fx_ty Y ad ts av
  | [], [], av, _, hs => by rw [fx_st_nil hs]; exact ⟨rfl, fun i t h => by simp at h⟩
  | [], _ :: _, _, h, _ => by cases h
  | _ :: _, [], _, h, _ => by cases h
  | a :: as, t :: ts, av, h, hs => by
    simp only [fx_tys, Bool.and_eq_true] at h
    obtain ⟨v, av', rfl, h1, h2⟩ := fx_st_cons hs
    have ih := fx_tys_ok hG as ts av' h.2 h2
    refine ⟨by simp [ih.1], fun i t' hi => ?_⟩
    cases i with
    | zero => simp at hi; subst hi; exact ⟨v, rfl, fx_sbt_ok hG h1 h.1⟩
    | succ i => simpa using ih.2 i t' (by simpa using hi)
def fx_pos (T : List fx_G) (pc : Nat) (md : List (Nat × Nat)) (as : List fx_V) (g : fx_S) : List fx_P → Option (List (Nat × fx_S))
  | [] => some []
  | po :: l => match fx_pos T pc md as g l with
    | none => none
    | some r => match fx_rp g.1 as po.2.1 with
      | none => some r
      | some G => match fx_ad1 (match po.1 with
          | some t => fx_pu (G, g.2.1, g.2.2.1, fx_sv T g.1 md g.2.2.2) t
          | none => (G, g.2.1, g.2.2.1, fx_sv T g.1 md g.2.2.2)) as po.2.2 with
        | some g' => some ((pc + 3, g') :: r)
        | none => none
theorem fx_pos_mem {T : List fx_G} {pc : Nat} {md : List (Nat × Nat)} {as : List fx_V} {g : fx_S} {po : fx_P} {G : List fx_T} : ∀ (l : List fx_P) (l' : List (Nat × fx_S)), fx_pos T pc md as g l = some l' → po ∈ l → fx_rp g.1 as po.2.1 = some G → ∃ g', fx_ad1 (match po.1 with
          | some t => fx_pu (G, g.2.1, g.2.2.1, fx_sv T g.1 md g.2.2.2) t
          | none => (G, g.2.1, g.2.2.1, fx_sv T g.1 md g.2.2.2)) as po.2.2 = some g' ∧ (pc + 3, g') ∈ l'
  | [], l', h, hm, hr => by cases hm
  | q :: l, l', h, hm, hr => by
    simp only [fx_pos] at h
    split at h
    · cases h
    · rename_i r hl
      rcases List.mem_cons.mp hm with rfl | hm
      · rw [hr] at h
        simp only [] at h
        split at h
        · rename_i g' hg'
          cases h
          exact ⟨g', hg', List.mem_cons_self⟩
        · cases h
      · obtain ⟨g', h1, h2⟩ := fx_pos_mem l r hl hm hr
        refine ⟨g', h1, ?_⟩
        split at h
        · cases h; exact h2
        · split at h
          · cases h; exact List.mem_cons_of_mem _ h2
          · cases h
def fx_cs (G : List fx_T) (S : List fx_V) : Nat := (S.map fun a => if fx_lg G a then 2 else 1).sum
def fx_ca (T : List fx_G) (md : List (Nat × Nat)) (pc : Nat) (c : fx_C) (g : fx_S) : Option (List (Nat × fx_S)) :=
  if fx_tys g.1 (g.2.2.1.take c.1.length).reverse c.1 = true ∧ fx_cs g.1 (g.2.2.1.drop c.1.length) ≤ 8 ∧ c.2.2.2.all (fun q => md.contains q) = true then
    (match fx_el1 T (g.1, g.2.1, g.2.2.1.drop c.1.length, g.2.2.2) (g.2.2.1.take c.1.length).reverse c.2.1 with
    | some q => fx_pos T pc c.2.2.2 (g.2.2.1.take c.1.length).reverse q.1 c.2.2.1
    | none => none) else none
