-- constructors: more rows
def zok (t : fx_T) : Bool := match t with
  | .inl (lo, hi) => decide (lo ≤ 0) && decide (0 ≤ hi)
  | _ => false
def zokL (t : fx_T) : Bool := match t with
  | .inr (.inl (lo, hi)) => decide (lo ≤ 0) && decide (0 ≤ hi)
  | _ => false
theorem helz {pat : List fx_T} (h : pat.all zok = true) : ∀ (gs ad : List Nat) (j : Nat) (t : fx_T), pat[j % pat.length]? = some t → fx_ok gs ad t (fx_el (.inl (fun _ => 0)) j) := by
  intro gs ad j t ht
  have h1 := List.all_eq_true.mp h t (List.mem_of_getElem? ht)
  rcases t with ⟨lo, hi⟩ | t
  · simp only [zok, Bool.and_eq_true, decide_eq_true_eq] at h1
    exact ⟨0, rfl, h1.1, h1.2⟩
  · cases h1
theorem helzL {pat : List fx_T} (h : pat.all zokL = true) : ∀ (gs ad : List Nat) (j : Nat) (t : fx_T), pat[j % pat.length]? = some t → fx_ok gs ad t (fx_el (.inr (.inl (fun _ => 0))) j) := by
  intro gs ad j t ht
  have h1 := List.all_eq_true.mp h t (List.mem_of_getElem? ht)
  rcases t with ⟨lo, hi⟩ | ⟨lo, hi⟩ | g
  · cases h1
  · simp only [zokL, Bool.and_eq_true, decide_eq_true_eq] at h1
    exact ⟨0, rfl, h1.1, h1.2⟩
  · cases h1
section KC2
variable {l : Launch} {p : Program} {e : Env} {R : Room} {s : State} {m : MethodId} {args : Array Value} {below : List Frame} {meth : Method} {c : Code} {Q : State → Prop} {cc : ByteArray} {nL : Nat} {own : String} {pc pc' : Nat} {lv lv' : List (Nat × Value)} {st : List Value} {cl sl : Nat}
variable {T : List fx_G} {cy : Nat → ClassId} {D : va_G} {A : Nat → Prop} {H0 : Heap} {gc : List Nat → Prop} {fr : va_W} {rs : List (Nat × Nat)}
theorem k_max {ws : Heap → List Loc → Prop} (C : gC p s m args c cc nL own) {x : Int} {index : Nat} (hx : 0 ≤ x ∧ x ≤ 2147483647) (hlink : Cond.methodLink own index Lib.Math.max.name ∈ wsL_law) (hstat : Cond.static Lib.Math.max.name ∈ wsL_law) (hini : Cond.initialized "java/lang/Math" ∈ wsL_law) (hcode : Cond.code Lib.Math.max.name Lib.Math.max.code 2 (some .int) ∈ wsL_law) (hframes : 1 ≤ R.frames) (hlocals : (st.map fun v => v.category).sum + 13 ≤ R.locals) (hc : cl ≤ R.cells) (hs : sl ≤ R.slots) (hdg : decode cc pc = .ok (.invokestatic index, 3)) (hp : pc + 3 = pc') (kk : GW p l e R s m args below meth c Q cc nL cl sl pc' lv (zv x :: st) ws) : GW p l e R s m args below meth c Q cc nL cl sl pc lv (zv 0 :: zv x :: st) ws := fun H locs ls hl hh => by
  subst hp
  refine va_mmax C.1 C.2.1 (by rw [C.2.2.1]; exact hl.1.symm) C.2.2.2.2.1 (C.2.2.2.1 _ hlink) (C.2.2.2.1 _ hstat) (C.2.2.2.1 _ hini) (C.2.2.2.1 _ hcode) hframes hlocals hc hs hdg ?_
  have e0 : ¬ Int32.ofInt x < Int32.ofInt 0 := by
    rw [Int32.lt_iff_toInt_lt, zv_i ⟨by omega, hx.2⟩, zv_i ⟨by omega, by omega⟩]; omega
  rw [if_neg e0]
  exact kk H locs ls hl hh
theorem k_alen (C : gC p s m args c cc nL own) (hK : va_K D classes (tys cy) s) (q0 t0 : Nat) {a n : Nat} {x : fx_A} {ty : FieldType} (he : fr[q0]? = some (a, .inl (cy t0, n, x))) (ht : (tys cy)[t0]? = some (cy t0, ty)) (hdg : decode cc pc = .ok (.arraylength, 1)) (hp : pc + 1 = pc') (kk : GW p l e R s m args below meth c Q cc nL cl sl pc' lv (zv n :: st) (kP T cy D A H0 gc fr rs)) : GW p l e R s m args below meth c Q cc nL cl sl pc lv (.ref a :: st) (kP T cy D A H0 gc fr rs) := fun H locs ls hl hh => by
  subst hp
  have hh' := hh
  obtain ⟨pl, gs, ad, h1, h2, h3, h4, h5, h6, h7⟩ := hh'
  refine va_alen (v := Int32.ofNat n) C.1 C.2.1 hK h5 q0 t0 (fr_at he) ht rfl hdg ?_
  exact kk H locs ls hl hh
/-- the last cell in front is told to be of a group, and goes behind -/
theorem k_up {g b : Nat} {x : va_E} {G : fx_G} {gc' : List Nat → Prop} (hG : T[g]? = some G) (hgc : ∀ gs, gc gs → gc' (gs ++ [g])) (hx : ∀ gs ad, (∀ q ∈ rs, rt gs ad q) → fx_okE (gs, T, cy, fun _ => True) ad G x) (kk : GW p l e R s m args below meth c Q cc nL cl sl pc lv st (kP T cy D A H0 gc' fr (rs ++ [(b, g)]))) : GW p l e R s m args below meth c Q cc nL cl sl pc lv st (kP T cy D A H0 gc (fr ++ [(b, x)]) rs) := fun H locs ls hl hh => by
  obtain ⟨pl, gs, ad, h1, h2, h3, h4, h5, h6, h7⟩ := hh
  have hP := h5.swap
  have hD := h6.swap
  rw [List.append_assoc] at hP hD
  have h4' : ∀ q ∈ rs, rt (gs ++ [g]) (ad ++ [b]) q := fun q hq => rt_l (h4 q hq)
  refine kk H locs ls hl ⟨pl ++ [(b, x)], gs ++ [g], ad ++ [b], hgc gs h1, by simp [h2], ?_, fun u hu => ?_, hP, hD, h7⟩
  · have ea := wo_len h3
    refine ⟨by rw [List.map_append, h3.1]; rfl, fun k a e' hk => ?_⟩
    by_cases hlt : k < pl.length
    · rw [List.getElem?_append_left hlt] at hk
      obtain ⟨g', G', q1, q2, q3⟩ := h3.2 k a e' hk
      exact ⟨g', G', by show (gs ++ [g])[k]? = some g'; rw [List.getElem?_append_left (by omega)]; exact q1, q2, okE_m (Y := (gs, T, cy, fun _ => True)) (ad := ad) rfl (fun t v hq => ok_l2 hq) q3⟩
    · rw [List.getElem?_append_right (by omega)] at hk
      have hz : k - pl.length < 1 := (List.getElem?_eq_some_iff.mp hk).1
      rw [show k - pl.length = 0 by omega] at hk
      cases hk
      exact ⟨g, G, by show (gs ++ [g])[k]? = some g; rw [List.getElem?_append_right (by omega), show k - gs.length = 0 by omega]; rfl, hG, hx _ _ h4'⟩
  · rcases List.mem_append.mp hu with h | h
    · exact h4' u h
    · rw [List.mem_singleton.mp h]
      exact rt_r (by rw [h2, wo_len h3]) ⟨0, rfl, rfl⟩
end KC2
/-- a row of references, all told -/
theorem ok_row {gs ad : List Nat} {T : List fx_G} {cy : Nat → ClassId} {t0 n g : Nat} {f : Nat → Option Nat} {rs : List (Nat × Nat)} (h4 : 4 ≤ t0) (hg : g < 10000) (hq : ∀ q ∈ rs, rt gs ad q) (hf : ∀ j, j < n → ∃ a, f j = some a ∧ (a, g) ∈ rs) : fx_okE (gs, T, cy, fun _ => True) ad (.inr (t0, n, [.inr (.inr (g + 1))])) (.inl (cy t0, n, .inr (.inr (.inr (.inr f))))) := by
  refine ⟨rfl, rfl, ?_, fun j t hj ht => ?_⟩
  · match t0, h4 with
    | 4, _ => exact ⟨f, rfl⟩
    | 5, _ => exact ⟨f, rfl⟩
    | k + 6, _ => exact ⟨f, rfl⟩
  · rw [show j % ([(.inr (.inr (g + 1)) : fx_T)]).length = 0 from Nat.mod_one j] at ht
    simp only [List.getElem?_cons_zero, Option.some.injEq] at ht
    subst ht
    obtain ⟨a, e1, e2⟩ := hf j hj
    have e3 : fx_el (.inr (.inr (.inr (.inr f)))) j = .ref a := by
      show va_rf (f j) = .ref a
      rw [e1]; rfl
    rw [e3]
    exact rt_ok (hq _ e2) hg
