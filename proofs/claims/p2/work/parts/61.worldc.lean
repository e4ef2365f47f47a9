theorem gw_PL {D : va_G} {cl : List vw_C} {X M : va_W} {H : Heap} (h : va_P D cl (X ++ M) H) : va_P D cl X H := fun k q hk => h k q (by rw [List.getElem?_append_left (List.getElem?_eq_some_iff.mp hk).1]; exact hk)
theorem gw_PR {D : va_G} {cl : List vw_C} {X M : va_W} {H : Heap} (h : va_P D cl (X ++ M) H) : va_P D cl M H := fun k q hk => h (X.length + k) q (by rw [List.getElem?_append_right (by omega), Nat.add_sub_cancel_left]; exact hk)
theorem gw_PA {D : va_G} {cl : List vw_C} {X M : va_W} {H : Heap} (h1 : va_P D cl X H) (h2 : va_P D cl M H) : va_P D cl (X ++ M) H := fun k q hk => by
  by_cases hl : k < X.length
  · rw [List.getElem?_append_left hl] at hk
    exact h1 k q hk
  · rw [List.getElem?_append_right (by omega)] at hk
    exact h2 _ q hk
theorem gw_D {A : Nat → Prop} {ws ws' : va_W} (h : va_D A ws) (e : ws'.map Prod.fst = ws.map Prod.fst) : va_D A ws' := by
  have key : ∀ (i : Nat) (p : Nat × va_E), ws'[i]? = some p → ∃ p0, ws[i]? = some p0 ∧ p0.1 = p.1 := by
    intro i p hi
    have h1 : (ws.map Prod.fst)[i]? = some p.1 := by rw [← e, List.getElem?_map, hi]; rfl
    rw [List.getElem?_map] at h1
    obtain ⟨p0, h2, h3⟩ := Option.map_eq_some_iff.mp h1
    exact ⟨p0, h2, h3⟩
  refine ⟨fun i j p q hi hj e9 => ?_, fun k q hk => ?_⟩
  · obtain ⟨p0, h2, h3⟩ := key i p hi
    obtain ⟨q0, h4, h5⟩ := key j q hj
    exact h.1 i j p0 q0 h2 h4 (by rw [h3, h5]; exact e9)
  · obtain ⟨p0, h2, h3⟩ := key k q hk
    rw [← h3]
    exact h.2 k p0 h2
theorem gw_ma {a a' b b' : va_W} (h1 : a.map Prod.fst = a'.map Prod.fst) (h2 : b.map Prod.fst = b'.map Prod.fst) : (a ++ b).map Prod.fst = (a' ++ b').map Prod.fst := by rw [List.map_append, List.map_append, h1, h2]
theorem gw_mf {n : Nat} {ra : Nat → Nat} {ci : Nat} {g g' : Nat → List Value} : (gz_fam n ra ci g).map Prod.fst = (gz_fam n ra ci g').map Prod.fst := by
  unfold gz_fam
  rw [List.map_map, List.map_map]
  rfl

