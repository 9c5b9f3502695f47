-- locals
def fx_lv (r : List Value) (L : fx_L) : List (Nat × Value) := L.filterMap (fun q => (fx_v r q.2).map (fun v => (q.1, v)))
theorem fx_lv_mem {r : List Value} {L : fx_L} {q : Nat × fx_V} {v : Value} (hq : q ∈ L) (hv : fx_v r q.2 = some v) : (q.1, v) ∈ fx_lv r L := List.mem_filterMap.mpr ⟨q, hq, by rw [hv]; rfl⟩
theorem fx_lo_has {r : List Value} {ls : Array Slot} {nL : Nat} {L : fx_L} (h : fx_lo r ls nL L) : lv_has ls nL (fx_lv r L) := ⟨h.1, h.2.1, fun q hq => by
  obtain ⟨p, hp, e⟩ := List.mem_filterMap.mp hq
  obtain ⟨v, h1, h2⟩ := h.2.2 p hp
  rw [h1] at e
  cases e
  exact h2⟩
def fx_lg (G : List fx_T) (a : fx_V) : Bool := match G[a.1]? with
  | some (.inl _) => false
  | some (.inr (.inr _)) => false
  | _ => true
theorem fx_kr {Y : fx_Y} {ad : List Nat} {G : List fx_T} {r : List Value} {a : fx_V} {v : Value} {g : Nat} (h : fx_ty Y ad G r) (hv : fx_v r a = some v) (hG : G[a.1]? = some (.inr (.inr g))) : r[a.1]? = some v ∧ fx_ok Y.1 ad (.inr (.inr g)) v := by
  obtain ⟨w, h1, h2⟩ := h.2 _ _ hG
  unfold fx_v at hv
  rw [h1] at hv
  cases g with
  | zero => simp only [fx_ok] at h2; subst h2; cases hv; exact ⟨h1, rfl⟩
  | succ g => obtain ⟨k, b, h3, h4, rfl⟩ := h2; cases hv; exact ⟨h1, k, b, h3, h4, rfl⟩
theorem fx_kl {Y : fx_Y} {ad : List Nat} {G : List fx_T} {r : List Value} {a : fx_V} {v : Value} {i : Int × Int} (h : fx_ty Y ad G r) (hv : fx_v r a = some v) (hG : G[a.1]? = some (.inr (.inl i))) : r[a.1]? = some v ∧ ∃ x : Int64, v = .long x ∧ i.1 ≤ x.toInt ∧ x.toInt ≤ i.2 := by
  obtain ⟨w, h1, x, rfl, h2⟩ := h.2 _ _ hG
  unfold fx_v at hv
  rw [h1] at hv
  cases hv
  exact ⟨h1, x, rfl, h2⟩
theorem fx_ki {Y : fx_Y} {ad : List Nat} {G : List fx_T} {r : List Value} {a : fx_V} {v : Value} {i : Int × Int} (h : fx_ty Y ad G r) (hv : fx_v r a = some v) (hG : G[a.1]? = some (.inl i)) : ∃ x : Int32, v = .int x := by
  obtain ⟨w, h1, x, rfl, h2⟩ := h.2 _ _ hG
  unfold fx_v at hv
  rw [h1] at hv
  cases hv
  exact ⟨_, rfl⟩
theorem fx_cat1 {Y : fx_Y} {ad : List Nat} {G : List fx_T} {r : List Value} {a : fx_V} {v : Value} (h : fx_ty Y ad G r) (hv : fx_v r a = some v) (hl : fx_lg G a = false) : v.category = 1 := by
  unfold fx_lg at hl
  split at hl
  · rename_i i hG
    obtain ⟨x, rfl⟩ := fx_ki h hv hG
    rfl
  · rename_i g hG
    have h2 := (fx_kr h hv hG).2
    cases g with
    | zero => simp only [fx_ok] at h2; subst h2; rfl
    | succ g => obtain ⟨k, b, h3, h4, rfl⟩ := h2; rfl
  · cases hl
def fx_k1 (G : List fx_T) (L : fx_L) (i : Nat) : fx_L := L.filter (fun q => !(q.1 == i) && !(q.1 + 1 == i && fx_lg G q.2))
def fx_k2 (G : List fx_T) (L : fx_L) (i : Nat) : fx_L := L.filter (fun q => !(q.1 == i) && (!(q.1 == i + 1) && !(q.1 + 1 == i && fx_lg G q.2)))
theorem fx_lo_s1 {Y : fx_Y} {ad : List Nat} {G : List fx_T} {r : List Value} {ls ls' : Array Slot} {nL i : Nat} {L : fx_L} {a : fx_V} {v : Value} (ht : fx_ty Y ad G r) (h : fx_lo r ls nL L) (ha : fx_v r a = some v) (h' : lv_has ls' nL ((i, v) :: (fx_lv r L).filter (fun q => !(q.1 == i) && !(q.1 + 1 == i && q.2.category == 2)))) : fx_lo r ls' nL ((i, a) :: fx_k1 G L i) := by
  refine ⟨h'.1, h'.2.1, fun q hq => ?_⟩
  rcases List.mem_cons.mp hq with rfl | hq
  · exact ⟨v, ha, h'.2.2 (i, v) List.mem_cons_self⟩
  · obtain ⟨hq1, hq2⟩ := List.mem_filter.mp hq
    obtain ⟨u, h1, h2⟩ := h.2.2 q hq1
    refine ⟨u, h1, h'.2.2 (q.1, u) (List.mem_cons_of_mem _ (List.mem_filter.mpr ⟨fx_lv_mem hq1 h1, ?_⟩))⟩
    cases hc : fx_lg G q.2 with
    | true => rw [hc] at hq2; simp at hq2 ⊢; exact ⟨hq2.1, Or.inl hq2.2⟩
    | false => have := fx_cat1 ht h1 hc; simp at hq2 ⊢; exact ⟨hq2.1, Or.inr (by omega)⟩
theorem fx_lo_s2 {Y : fx_Y} {ad : List Nat} {G : List fx_T} {r : List Value} {ls ls' : Array Slot} {nL i : Nat} {L : fx_L} {a : fx_V} {v : Value} (ht : fx_ty Y ad G r) (h : fx_lo r ls nL L) (ha : fx_v r a = some v) (h' : lv_has ls' nL ((i, v) :: (fx_lv r L).filter (fun q => !(q.1 == i) && (!(q.1 == i + 1) && !(q.1 + 1 == i && q.2.category == 2))))) : fx_lo r ls' nL ((i, a) :: fx_k2 G L i) := by
  refine ⟨h'.1, h'.2.1, fun q hq => ?_⟩
  rcases List.mem_cons.mp hq with rfl | hq
  · exact ⟨v, ha, h'.2.2 (i, v) List.mem_cons_self⟩
  · obtain ⟨hq1, hq2⟩ := List.mem_filter.mp hq
    obtain ⟨u, h1, h2⟩ := h.2.2 q hq1
    refine ⟨u, h1, h'.2.2 (q.1, u) (List.mem_cons_of_mem _ (List.mem_filter.mpr ⟨fx_lv_mem hq1 h1, ?_⟩))⟩
    cases hc : fx_lg G q.2 with
    | true => rw [hc] at hq2; simp at hq2 ⊢; exact ⟨hq2.1, hq2.2.1, Or.inl hq2.2.2⟩
    | false => have := fx_cat1 ht h1 hc; simp at hq2 ⊢; exact ⟨hq2.1, hq2.2.1, Or.inr (by omega)⟩
theorem fx_find {L : fx_L} {i : Nat} {q : Nat × fx_V} (h : L.find? (fun q => q.1 == i) = some q) : q ∈ L ∧ q.1 = i := ⟨List.mem_of_find?_eq_some h, by have := List.find?_some h; simpa using this⟩
-- a point of the machine
def fx_hp (Y : fx_Y) (ad : List Nat) (D : va_G) (cl : List vw_C) (A : Nat → Prop) (H0 : Heap) (md : List (Nat × Nat)) (w0 ws : va_W) (H : Heap) (locs : List Loc) : Prop := fx_wo Y ad ws ∧ va_P D cl ws H ∧ va_D A ws ∧ va_S A H0 H locs ∧ (fx_sm Y md w0 ws ∧ Y.2.2.2 ws)
def fx_W (Y : fx_Y) (ad : List Nat) (nL : Nat) (D : va_G) (cl : List vw_C) (A : Nat → Prop) (H0 : Heap) (md : List (Nat × Nat)) (w0 : va_W) (p : Program) (l : Launch) (e : Env) (R : Room) (s : State) (m : MethodId) (args : Array Value) (below : List Frame) (meth : Method) (c : Code) (Q : State → Prop) (r0 : List Value) (pc : Nat) (g : fx_S) : Prop :=
  ∀ (w : List Value) (ws : va_W) (H : Heap) (ls : Array Slot) (st : List Value) (locs : List Loc), fx_g Y ad nL g (r0 ++ w) ws ls st → fx_hp Y ad D cl A H0 md w0 ws H locs → W p l e R s m args below meth c H locs 0 0 Q (F0 m pc ls st)
def fx_pu (g : fx_S) (t : fx_T) : fx_S := (g.1 ++ [t], g.2.1, (g.1.length, 0) :: g.2.2.1, g.2.2.2)
section FX2
variable {Y : fx_Y} {ad : List Nat} {nL : Nat} {D : va_G} {cl : List vw_C} {A : Nat → Prop} {H0 : Heap} {md : List (Nat × Nat)} {w0 : va_W} {p : Program} {l : Launch} {e : Env} {R : Room} {s : State} {m : MethodId} {args : Array Value} {below : List Frame} {meth : Method} {c : Code} {Q : State → Prop} {cc : ByteArray} {pc : Nat} {r0 w : List Value} {ws : va_W} {H : Heap} {ls : Array Slot} {st : List Value} {locs : List Loc} {tys : List (ClassId × FieldType)}
theorem fx_kp {g : fx_S} {t : fx_T} {v : Value} (hk : fx_W Y ad nL D cl A H0 md w0 p l e R s m args below meth c Q r0 pc (fx_pu g t)) (hg : fx_g Y ad nL g (r0 ++ w) ws ls st) (hh : fx_hp Y ad D cl A H0 md w0 ws H locs) (hv : fx_ok Y.1 ad t v) : W p l e R s m args below meth c H locs 0 0 Q (F0 m pc ls (v :: st)) := by
  refine hk (w ++ [v]) ws H ls (v :: st) locs ?_ hh
  rw [← List.append_assoc]
  exact fx_push hg hv
end FX2
-- constants, locals, the stack
def fx_kd (G : List fx_T) (a : fx_V) : Nat := match G[a.1]? with
  | some (.inl _) => 0
  | some (.inr (.inl _)) => 1
  | some (.inr (.inr 0)) => 3
  | some (.inr (.inr _)) => 2
  | none => 9
def fx_ld (g : fx_S) (i pc : Nat) (ks : List Nat) : Option (List (Nat × fx_S)) := match g.2.1.find? (fun q => q.1 == i) with
  | some q => if ks.contains (fx_kd g.1 q.2) then some [(pc, (g.1, g.2.1, q.2 :: g.2.2.1, g.2.2.2))] else none
  | none => none
def fx_so (nL : Nat) (g : fx_S) (i pc : Nat) (ks : List Nat) : Option (List (Nat × fx_S)) := match g.2.2.1 with
  | a :: S => if ks.contains (fx_kd g.1 a) ∧ i < nL then some [(pc, (g.1, (i, a) :: fx_k1 g.1 g.2.1 i, S, g.2.2.2))] else none
  | [] => none
def fx_so2 (nL : Nat) (g : fx_S) (i pc : Nat) : Option (List (Nat × fx_S)) := match g.2.2.1 with
  | a :: S => if fx_kd g.1 a = 1 ∧ i + 1 < nL then some [(pc, (g.1, (i, a) :: fx_k2 g.1 g.2.1 i, S, g.2.2.2))] else none
  | [] => none
def fx_in (nL : Nat) (g : fx_S) (i : Nat) (n : Int) (pc : Nat) : Option (List (Nat × fx_S)) := match g.2.1.find? (fun q => q.1 == i) with
  | some q => if fx_kd g.1 q.2 = 0 ∧ i < nL then some [(pc, (g.1, (i, (q.2.1, q.2.2 + n)) :: fx_k1 g.1 g.2.1 i, g.2.2.1, g.2.2.2))] else none
  | none => none
theorem fx_kd0 {G : List fx_T} {a : fx_V} (h : fx_kd G a = 0) : ∃ i, G[a.1]? = some (.inl i) := by
  unfold fx_kd at h
  split at h <;> first | (rename_i i hG; exact ⟨i, hG⟩) | (exact absurd h (by decide))
theorem fx_kd1 {G : List fx_T} {a : fx_V} (h : fx_kd G a = 1) : ∃ i, G[a.1]? = some (.inr (.inl i)) := by
  unfold fx_kd at h
  split at h <;> first | (exact absurd h (by decide)) | (rename_i i hG; exact ⟨i, hG⟩)
theorem fx_kd2 {G : List fx_T} {a : fx_V} (h : fx_kd G a = 2) : ∃ g, G[a.1]? = some (.inr (.inr (g + 1))) := by
  unfold fx_kd at h
  split at h <;> first | (exact absurd h (by decide)) | skip
  rename_i g hn hG
  cases g with
  | zero => exact absurd rfl hn
  | succ g => exact ⟨g, hG⟩
theorem fx_kd3 {G : List fx_T} {a : fx_V} (h : fx_kd G a = 3) : G[a.1]? = some (.inr (.inr 0)) := by
  unfold fx_kd at h
  split at h <;> first | (exact absurd h (by decide)) | assumption
theorem fx_kdl {G : List fx_T} {a : fx_V} (h : fx_kd G a ≠ 1) (h9 : fx_kd G a ≠ 9) : fx_lg G a = false := by
  unfold fx_kd at h h9
  unfold fx_lg
  split at h <;> simp_all
