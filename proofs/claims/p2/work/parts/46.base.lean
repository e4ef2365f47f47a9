/-! a name's number among those told, by the first that is the same; -1: none -/
def pnG (f : Nat → Int32) (v : Int32) : Nat → Nat → Int
  | 0, _ => -1
  | k + 1, i => if f i = v then (i : Int) else pnG f v k (i + 1)
def pnF (f : Nat → Int32) (n v : Int32) : Int := pnG f v n.toInt.toNat 0
theorem pn_start (f : Nat → Int32) (n v : Int32) : pnF f n v = pnG f v (n.toInt - 0).toNat (0 : Int).toNat := by
  rw [Int.sub_zero]
  rfl
theorem pn_hit {f : Nat → Int32} {n v i : Int32} (h : pnF f n v = pnG f v (n.toInt - i.toInt).toNat i.toInt.toNat) (h0 : 0 ≤ i.toInt) (h1 : i.toInt < n.toInt) (e : f i.toNatClampNeg = v) : i.toInt = pnF f n v := by
  rw [h]
  obtain ⟨k, hk⟩ : ∃ k, (n.toInt - i.toInt).toNat = k + 1 := ⟨(n.toInt - i.toInt).toNat - 1, by omega⟩
  have e : f i.toInt.toNat = v := e
  rw [hk, pnG, if_pos e]
  omega
theorem pn_step {f : Nat → Int32} {n v i j : Int32} (h : pnF f n v = pnG f v (n.toInt - i.toInt).toNat i.toInt.toNat) (h0 : 0 ≤ i.toInt) (h1 : i.toInt < n.toInt) (e : ¬ f i.toNatClampNeg = v) (hj : j.toInt = i.toInt + 1) : pnF f n v = pnG f v (n.toInt - j.toInt).toNat j.toInt.toNat := by
  rw [h]
  obtain ⟨k, hk⟩ : ∃ k, (n.toInt - i.toInt).toNat = k + 1 := ⟨(n.toInt - i.toInt).toNat - 1, by omega⟩
  have e : ¬ f i.toInt.toNat = v := e
  rw [hk, pnG, if_neg e, hj, show (n.toInt - (i.toInt + 1)).toNat = k by omega, show (i.toInt + 1).toNat = i.toInt.toNat + 1 by omega]
theorem pn_end {f : Nat → Int32} {n v i : Int32} (h : pnF f n v = pnG f v (n.toInt - i.toInt).toNat i.toInt.toNat) (h1 : n.toInt ≤ i.toInt) : pnF f n v = -1 := by
  rw [h, show (n.toInt - i.toInt).toNat = 0 by omega]
  rfl
/-! whether a word of the text is this one -/
def wdP (ft : Nat → Int32) (b a tk : Int32) (L : List Int32) (n : Nat) : Prop := tk.toInt = 1 ∧ a.toInt - b.toInt = (L.length : Int) ∧ ∀ j, j < n → ft (b.toInt.toNat + j) = (L.getD j 0 &&& 255)
noncomputable def wdB (ft : Nat → Int32) (b a tk : Int32) (L : List Int32) : Int32 := @ite _ (wdP ft b a tk L L.length) (Classical.propDecidable _) 1 0
theorem wd_yes {ft : Nat → Int32} {b a tk : Int32} {L : List Int32} (h : wdP ft b a tk L L.length) : (wdB ft b a tk L).toInt = 1 := by
  unfold wdB
  rw [if_pos h]
  decide
theorem wd_not {ft : Nat → Int32} {b a tk : Int32} {L : List Int32} (h : ¬ wdP ft b a tk L L.length) : (wdB ft b a tk L).toInt = 0 := by
  unfold wdB
  rw [if_neg h]
  decide
theorem wd_le {ft : Nat → Int32} {b a tk : Int32} {L : List Int32} {n : Nat} (h : wdP ft b a tk L n) (hn : L.length ≤ n) : (wdB ft b a tk L).toInt = 1 := wd_yes ⟨h.1, h.2.1, fun j hj => h.2.2 j (by omega)⟩
theorem wd_0 {ft : Nat → Int32} {b a tk : Int32} {L : List Int32} (h1 : tk.toInt = 1) (h2 : a.toInt - b.toInt = (L.length : Int)) : wdP ft b a tk L (0 : Int).toNat := ⟨h1, h2, fun j hj => absurd hj (by simp)⟩
theorem wd_step {ft : Nat → Int32} {b a tk k i x y k2 : Int32} {L : List Int32} (h : wdP ft b a tk L k.toInt.toNat) (hk : 0 ≤ k.toInt) (hb : 0 ≤ b.toInt) (ei : i.toInt = b.toInt + k.toInt) (e1 : x = ft i.toNatClampNeg) (e2 : y = L.getD k.toNatClampNeg 0 &&& 255) (hxy : x = y) (e3 : k2.toInt = k.toInt + 1) : wdP ft b a tk L k2.toInt.toNat := by
  refine ⟨h.1, h.2.1, fun j hj => ?_⟩
  by_cases hj2 : j < k.toInt.toNat
  · exact h.2.2 j hj2
  · have hj3 : j = k.toInt.toNat := by omega
    have h5 : i.toNatClampNeg = b.toInt.toNat + j := by show i.toInt.toNat = _; omega
    rw [← h5, ← e1, hxy, e2, hj3]
    rfl
theorem wd_no {ft : Nat → Int32} {b a tk k i x y : Int32} {L : List Int32} (hk : 0 ≤ k.toInt) (hkl : k.toInt < (L.length : Int)) (hb : 0 ≤ b.toInt) (ei : i.toInt = b.toInt + k.toInt) (e1 : x = ft i.toNatClampNeg) (e2 : y = L.getD k.toNatClampNeg 0 &&& 255) (hxy : ¬ x = y) : (wdB ft b a tk L).toInt = 0 := by
  refine wd_not (fun h => hxy ?_)
  have h5 : i.toNatClampNeg = b.toInt.toNat + k.toInt.toNat := by show i.toInt.toNat = _; omega
  have h6 := h.2.2 k.toInt.toNat (by omega)
  rw [e1, h5, h6, e2]
  rfl
theorem gz_hddU {fk fm fl : Nat → Int32} {k : Nat} {vk vm vl : Int32} (h : ∀ j : Nat, j < 8 → ((fk j).toInt ≠ 0 ∨ (fm j).toInt + (fl j).toInt ≤ 23)) (hv : vk.toInt ≠ 0 ∨ vm.toInt + vl.toInt ≤ 23) : ∀ j : Nat, j < 8 → ((upd fk k vk j).toInt ≠ 0 ∨ (upd fm k vm j).toInt + (upd fl k vl j).toInt ≤ 23) := by
  intro j hj
  unfold upd
  by_cases hk : j = k
  · rw [if_pos hk, if_pos hk, if_pos hk]
    exact hv
  · rw [if_neg hk, if_neg hk, if_neg hk]
    exact h j hj
/-! a word of the text by the wide instruction -/
theorem gz_ldcwX {p : Program} {l : Launch} {e : Env} {R : Room} {s : State} {m : MethodId} {args : Array Value} {below : List Frame} {meth : Method} {c : Code} {T : State} {locs : List Loc} {cells slots : Nat} (X : Stand p l e R s m args below meth c T locs cells slots) (hexec : p.tables.exec = Jvm.exec) {own text : String} {index : Nat} {a : Addr} (hown : s.vm.findClass own = some m.cls) (hconst : (Cond.stringRef own index text).before args s = true) (hev : (Term.string own index).eval args s none [] s = some (.ref a)) {g : JFrame} (hg : g.method = m) (hdg : decode c.code g.pc = .ok (.ldc_w index, 3)) :
    ∀ target, Steps p.tables e below (T.setTop { g with pc := g.pc + 3, stack := .ref a :: g.stack }) target → Steps p.tables e below (T.setTop g) target := by
  obtain ⟨k, cf, i, a', hk, hcf, hcp, -, hr, hev'⟩ := Cond.stringRef_spec hown hconst
  cases hev.symm.trans hev'
  obtain ⟨k', hk', he⟩ := X.warmed.alike.2.2 _ _ hk
  have hr' : k'.resolved[index]? = some (some (.string a)) := by
    rcases X.warmed.entry hk hk' index with h | ⟨h, -⟩
    · rw [h]; exact hr
    · rw [hr] at h; cases h
  intro target hrest
  subst hg
  jvm_step X.here [hexec, hdg, ldc_w.wp_string (e := e) (s := T) (f := g) X.here.top hk' (by rw [he]; exact hcf) hcp hr']
  exact hrest
theorem gz_ldcwS {p : Program} {l : Launch} {e : Env} {R : Room} {s : State} {m : MethodId} {args : Array Value} {below : List Frame} {meth : Method} {c : Code} {H : Heap} {locs : List Loc} {cells slots : Nat} {Q : State → Prop} {cc : ByteArray} {pc : Nat} {ls : Array Slot} {rest : List Value} (hexec : p.tables.exec = Jvm.exec) (hb : c.code = cc) {own tx : String} {index q : Nat} (hown : s.vm.findClass own = some m.cls) (hZ : vk_R own index tx q s) (hdg : decode cc pc = .ok (.ldc_w index, 3)) (k : W p l e R s m args below meth c H locs cells slots Q (F0 m (pc + 3) ls (.ref q :: rest))) : W p l e R s m args below meth c H locs cells slots Q (F0 m pc ls rest) := by
  intro T hT X
  obtain ⟨t, a1, b1⟩ := k T hT X
  exact ⟨t, gz_ldcwX X hexec hown (text := tx) (a := q) hZ.1 hZ.2 (g := F0 m pc ls rest) rfl (by rw [hb]; exact hdg) t a1, b1⟩

