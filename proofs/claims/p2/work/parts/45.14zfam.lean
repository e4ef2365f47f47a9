/-! families: their places by runs of numbers -/
theorem gz_sub {D : va_G} {cl : List vw_C} {ws ws' : va_W} {H : Heap} (h : va_P D cl ws H) (is : List Nat) (hs : is.map (fun i => ws[i]?) = ws'.map some) : va_P D cl ws' H := by
  intro k q hk
  obtain ⟨i, -, hi⟩ := va_in_of is hs hk
  exact h i q hi
theorem gz_ixapp {ws w1 w2 : va_W} {is js : List Nat} (h1 : is.map (fun i => ws[i]?) = w1.map some) (h2 : js.map (fun i => ws[i]?) = w2.map some) : (is ++ js).map (fun i => ws[i]?) = (w1 ++ w2).map some := by
  rw [List.map_append, List.map_append, h1, h2]
theorem gz_ixL {R S w : va_W} {is : List Nat} (h : is.map (fun i => R[i]?) = w.map some) : is.map (fun i => (R ++ S)[i]?) = w.map some := by
  rw [← h]
  apply List.map_congr_left
  intro i hi
  have h1 : R[i]? ∈ is.map (fun i => R[i]?) := List.mem_map.mpr ⟨i, hi, rfl⟩
  rw [h] at h1
  obtain ⟨q, -, hq⟩ := List.mem_map.mp h1
  exact List.getElem?_append_left (List.getElem?_eq_some_iff.mp hq.symm).1
theorem gz_ixR {R S w : va_W} {k n m : Nat} (hm : R.length = m) (h : (List.range' k n).map (fun i => S[i]?) = w.map some) : (List.range' (m + k) n).map (fun i => (R ++ S)[i]?) = w.map some := by
  subst hm
  rw [← h]
  apply List.ext_getElem?
  intro i
  rw [List.getElem?_map, List.getElem?_map]
  by_cases hi : i < n
  · rw [List.getElem?_range' hi, List.getElem?_range' hi]
    show some ((R ++ S)[R.length + k + 1 * i]?) = some (S[k + 1 * i]?)
    rw [List.getElem?_append_right (by omega), show R.length + k + 1 * i - R.length = k + 1 * i by omega]
  · rw [List.getElem?_eq_none (by rw [List.length_range']; omega), List.getElem?_eq_none (by rw [List.length_range']; omega)]
    rfl
theorem gz_ixSelf {n : Nat} {ra : Nat → Nat} {ci : Nat} {g : Nat → List Value} : (List.range' 0 n).map (fun i => (gz_fam n ra ci g)[i]?) = (gz_fam n ra ci g).map some := by
  apply List.ext_getElem?
  intro i
  rw [List.getElem?_map, List.getElem?_map]
  by_cases hi : i < n
  · rw [gz_fam_at hi, List.getElem?_range' hi]
    show some ((gz_fam n ra ci g)[0 + 1 * i]?) = _
    rw [Nat.zero_add, Nat.one_mul, gz_fam_at hi]
    rfl
  · have h1 : (gz_fam n ra ci g)[i]? = none := List.getElem?_eq_none (by rw [gz_famlen]; omega)
    have h2 : (List.range' 0 n)[i]? = none := List.getElem?_eq_none (by rw [List.length_range']; omega)
    rw [h1, h2]
    rfl

