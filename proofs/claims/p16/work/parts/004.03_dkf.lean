/-! a method's instructions read in one pass over its bytes (laid by dkf.py) -/
theorem dp_get {L : List UInt8} : ∀ {p : Nat} {b : UInt8} {r : List UInt8}, L.drop p = b :: r → L[p]? = some b := by
  intro p b r h
  have e : (L.drop p)[0]? = some b := by rw [h]; rfl
  rw [List.getElem?_drop, Nat.add_zero] at e
  exact e
theorem dp_nx {L : List UInt8} {p : Nat} {b : UInt8} {r : List UInt8} (h : L.drop p = b :: r) : L.drop (p + 1) = r := by
  have e : (L.drop p).drop 1 = r := by rw [h]; rfl
  rw [List.drop_drop] at e
  exact e
theorem u1_run {c : ByteArray} {p : Nat} {x : UInt8} (h : c.data.toList[p]? = some x) : (Reader.u1 : Decoder Nat) c p = .ok (x.toNat, p + 1) := by
  have hl : p < c.size := by
    have h1 := (List.getElem?_eq_some_iff.mp h).1
    rw [Array.length_toList] at h1
    exact h1
  have hx : c[p] = x := by
    have h1 := (List.getElem?_eq_some_iff.mp h).2
    exact h1
  unfold Reader.u1
  show (if h : p < c.size then ((fun _ _ => Except.ok (c[p].toNat, p + 1)) : Decoder Nat) else ((fun _ _ => Except.error (HasTruncated.truncated p)) : Decoder Nat)) c p = _
  rw [dif_pos hl]
  show Except.ok (c[p].toNat, p + 1) = _
  rw [hx]
theorem u2_run {c : ByteArray} {p : Nat} {x y : UInt8} (h1 : c.data.toList[p]? = some x) (h2 : c.data.toList[p + 1]? = some y) : (Reader.u2 : Decoder Nat) c p = .ok (x.toNat * 256 + y.toNat, p + 2) := by
  unfold Reader.u2
  show Except.bind ((Reader.u1 : Decoder Nat) c p) _ = _
  rw [u1_run h1]
  show Except.bind ((Reader.u1 : Decoder Nat) c (p + 1)) _ = _
  rw [u1_run h2]
  rfl
theorem s1_run {c : ByteArray} {p : Nat} {x : UInt8} (h1 : c.data.toList[p]? = some x) : (Reader.s1 : Decoder Int) c p = .ok (Reader.signed 8 x.toNat, p + 1) := by
  unfold Reader.s1
  show Except.bind ((Reader.u1 : Decoder Nat) c p) _ = _
  rw [u1_run h1]
  rfl
theorem s2_run {c : ByteArray} {p : Nat} {x y : UInt8} (h1 : c.data.toList[p]? = some x) (h2 : c.data.toList[p + 1]? = some y) : (Reader.s2 : Decoder Int) c p = .ok (Reader.signed 16 (x.toNat * 256 + y.toNat), p + 2) := by
  unfold Reader.s2
  show Except.bind ((Reader.u2 : Decoder Nat) c p) _ = _
  rw [u2_run h1 h2]
  rfl
theorem dc_gen {c : ByteArray} {p n : Nat} {x : UInt8} {i : Instr} (h : c.data.toList[p]? = some x) (K : Nat → Decoder Instr) (hK : Decoder.instr p = Reader.u1 >>= K) (hr : K x.toNat c (p + 1) = .ok (i, p + n)) : decode c p = .ok (i, n) := by
  unfold decode Reader.runAt
  rw [hK]
  show Except.bind (Except.bind ((Reader.u1 : Decoder Nat) c p) (fun q => K q.1 c q.2)) _ = _
  rw [u1_run h]
  show Except.bind (K x.toNat c (p + 1)) _ = _
  rw [hr]
  show Except.ok (i, p + n - p) = _
  rw [Nat.add_sub_cancel_left]
theorem rn_u1 {c : ByteArray} {p : Nat} {x : UInt8} (f : Nat → Instr) (h : c.data.toList[p + 1]? = some x) : (Reader.u1 >>= fun a => pure (f a) : Decoder Instr) c (p + 1) = .ok (f x.toNat, p + 2) := by
  show Except.bind ((Reader.u1 : Decoder Nat) c (p + 1)) _ = _
  rw [u1_run h]
  rfl
theorem rn_s1 {c : ByteArray} {p : Nat} {x : UInt8} (f : Int → Instr) (h : c.data.toList[p + 1]? = some x) : (Reader.s1 >>= fun a => pure (f a) : Decoder Instr) c (p + 1) = .ok (f (Reader.signed 8 x.toNat), p + 2) := by
  show Except.bind ((Reader.s1 : Decoder Int) c (p + 1)) _ = _
  rw [s1_run h]
  rfl
theorem rn_u2 {c : ByteArray} {p : Nat} {x y : UInt8} (f : Nat → Instr) (h : c.data.toList[p + 1]? = some x) (h2 : c.data.toList[p + 2]? = some y) : (Reader.u2 >>= fun a => pure (f a) : Decoder Instr) c (p + 1) = .ok (f (x.toNat * 256 + y.toNat), p + 3) := by
  show Except.bind ((Reader.u2 : Decoder Nat) c (p + 1)) _ = _
  rw [u2_run h h2]
  rfl
theorem rn_s2 {c : ByteArray} {p : Nat} {x y : UInt8} (f : Int → Instr) (h : c.data.toList[p + 1]? = some x) (h2 : c.data.toList[p + 2]? = some y) : (Reader.s2 >>= fun a => pure (f a) : Decoder Instr) c (p + 1) = .ok (f (Reader.signed 16 (x.toNat * 256 + y.toNat)), p + 3) := by
  show Except.bind ((Reader.s2 : Decoder Int) c (p + 1)) _ = _
  rw [s2_run h h2]
  rfl
theorem rn_us {c : ByteArray} {p : Nat} {x y : UInt8} (f : Nat → Int → Instr) (h : c.data.toList[p + 1]? = some x) (h2 : c.data.toList[p + 2]? = some y) : (Reader.u1 >>= fun a => Reader.s1 >>= fun b => pure (f a b) : Decoder Instr) c (p + 1) = .ok (f x.toNat (Reader.signed 8 y.toNat), p + 3) := by
  show Except.bind ((Reader.u1 : Decoder Nat) c (p + 1)) _ = _
  rw [u1_run h]
  show Except.bind ((Reader.s1 : Decoder Int) c (p + 2)) _ = _
  rw [s1_run h2]
  rfl
def dqR_42 (r : List UInt8) : Option (Instr × Nat) := some (.aload_n 0, 1)
theorem dqO_42 {c : ByteArray} {p n : Nat} {i : Instr} {r : List UInt8} (h : c.data.toList.drop p = 42 :: r) (hq : dqR_42 r = some (i, n)) : decode c p = .ok (i, n) := by
  cases hq
  exact dc_gen (dp_get h) _ rfl rfl
def dqR_180 (r : List UInt8) : Option (Instr × Nat) := match r with | x :: y :: _ => some (.getfield (x.toNat * 256 + y.toNat), 3) | _ => none
theorem dqO_180 {c : ByteArray} {p n : Nat} {i : Instr} {r : List UInt8} (h : c.data.toList.drop p = 180 :: r) (hq : dqR_180 r = some (i, n)) : decode c p = .ok (i, n) := by
  match r, h, hq with
  | [], _, hq => cases hq
  | [_], _, hq => cases hq
  | x :: y :: r2, h, hq =>
    cases hq
    exact dc_gen (dp_get h) _ rfl (rn_u2 (fun a => .getfield a) (dp_get (dp_nx h)) (dp_get (dp_nx (dp_nx h))))
def dqR_182 (r : List UInt8) : Option (Instr × Nat) := match r with | x :: y :: _ => some (.invokevirtual (x.toNat * 256 + y.toNat), 3) | _ => none
theorem dqO_182 {c : ByteArray} {p n : Nat} {i : Instr} {r : List UInt8} (h : c.data.toList.drop p = 182 :: r) (hq : dqR_182 r = some (i, n)) : decode c p = .ok (i, n) := by
  match r, h, hq with
  | [], _, hq => cases hq
  | [_], _, hq => cases hq
  | x :: y :: r2, h, hq =>
    cases hq
    exact dc_gen (dp_get h) _ rfl (rn_u2 (fun a => .invokevirtual a) (dp_get (dp_nx h)) (dp_get (dp_nx (dp_nx h))))
def dqR_27 (r : List UInt8) : Option (Instr × Nat) := some (.iload_n 1, 1)
theorem dqO_27 {c : ByteArray} {p n : Nat} {i : Instr} {r : List UInt8} (h : c.data.toList.drop p = 27 :: r) (hq : dqR_27 r = some (i, n)) : decode c p = .ok (i, n) := by
  cases hq
  exact dc_gen (dp_get h) _ rfl rfl
def dqR_29 (r : List UInt8) : Option (Instr × Nat) := some (.iload_n 3, 1)
theorem dqO_29 {c : ByteArray} {p n : Nat} {i : Instr} {r : List UInt8} (h : c.data.toList.drop p = 29 :: r) (hq : dqR_29 r = some (i, n)) : decode c p = .ok (i, n) := by
  cases hq
  exact dc_gen (dp_get h) _ rfl rfl
def dqR_4 (r : List UInt8) : Option (Instr × Nat) := some (.iconst 1, 1)
theorem dqO_4 {c : ByteArray} {p n : Nat} {i : Instr} {r : List UInt8} (h : c.data.toList.drop p = 4 :: r) (hq : dqR_4 r = some (i, n)) : decode c p = .ok (i, n) := by
  cases hq
  exact dc_gen (dp_get h) _ rfl rfl
def dqR_28 (r : List UInt8) : Option (Instr × Nat) := some (.iload_n 2, 1)
theorem dqO_28 {c : ByteArray} {p n : Nat} {i : Instr} {r : List UInt8} (h : c.data.toList.drop p = 28 :: r) (hq : dqR_28 r = some (i, n)) : decode c p = .ok (i, n) := by
  cases hq
  exact dc_gen (dp_get h) _ rfl rfl
def dqR_172 (r : List UInt8) : Option (Instr × Nat) := some (.ireturn, 1)
theorem dqO_172 {c : ByteArray} {p n : Nat} {i : Instr} {r : List UInt8} (h : c.data.toList.drop p = 172 :: r) (hq : dqR_172 r = some (i, n)) : decode c p = .ok (i, n) := by
  cases hq
  exact dc_gen (dp_get h) _ rfl rfl
def dqR_96 (r : List UInt8) : Option (Instr × Nat) := some (.iadd, 1)
theorem dqO_96 {c : ByteArray} {p n : Nat} {i : Instr} {r : List UInt8} (h : c.data.toList.drop p = 96 :: r) (hq : dqR_96 r = some (i, n)) : decode c p = .ok (i, n) := by
  cases hq
  exact dc_gen (dp_get h) _ rfl rfl
def dqR_46 (r : List UInt8) : Option (Instr × Nat) := some (.iaload, 1)
theorem dqO_46 {c : ByteArray} {p n : Nat} {i : Instr} {r : List UInt8} (h : c.data.toList.drop p = 46 :: r) (hq : dqR_46 r = some (i, n)) : decode c p = .ok (i, n) := by
  cases hq
  exact dc_gen (dp_get h) _ rfl rfl
def dqR_3 (r : List UInt8) : Option (Instr × Nat) := some (.iconst 0, 1)
theorem dqO_3 {c : ByteArray} {p n : Nat} {i : Instr} {r : List UInt8} (h : c.data.toList.drop p = 3 :: r) (hq : dqR_3 r = some (i, n)) : decode c p = .ok (i, n) := by
  cases hq
  exact dc_gen (dp_get h) _ rfl rfl
def dqR_21 (r : List UInt8) : Option (Instr × Nat) := match r with | x :: _ => some (.iload (x.toNat), 2) | [] => none
theorem dqO_21 {c : ByteArray} {p n : Nat} {i : Instr} {r : List UInt8} (h : c.data.toList.drop p = 21 :: r) (hq : dqR_21 r = some (i, n)) : decode c p = .ok (i, n) := by
  match r, h, hq with
  | [], _, hq => cases hq
  | x :: r2, h, hq =>
    cases hq
    exact dc_gen (dp_get h) _ rfl (rn_u1 (fun a => .iload a) (dp_get (dp_nx h)))
def dqR_167 (r : List UInt8) : Option (Instr × Nat) := match r with | x :: y :: _ => some (.goto (Reader.signed 16 (x.toNat * 256 + y.toNat)), 3) | _ => none
theorem dqO_167 {c : ByteArray} {p n : Nat} {i : Instr} {r : List UInt8} (h : c.data.toList.drop p = 167 :: r) (hq : dqR_167 r = some (i, n)) : decode c p = .ok (i, n) := by
  match r, h, hq with
  | [], _, hq => cases hq
  | [_], _, hq => cases hq
  | x :: y :: r2, h, hq =>
    cases hq
    exact dc_gen (dp_get h) _ rfl (rn_s2 (fun a => .goto a) (dp_get (dp_nx h)) (dp_get (dp_nx (dp_nx h))))
def dqR_16 (r : List UInt8) : Option (Instr × Nat) := match r with | x :: _ => some (.bipush (Reader.signed 8 x.toNat), 2) | [] => none
theorem dqO_16 {c : ByteArray} {p n : Nat} {i : Instr} {r : List UInt8} (h : c.data.toList.drop p = 16 :: r) (hq : dqR_16 r = some (i, n)) : decode c p = .ok (i, n) := by
  match r, h, hq with
  | [], _, hq => cases hq
  | x :: r2, h, hq =>
    cases hq
    exact dc_gen (dp_get h) _ rfl (rn_s1 (fun a => .bipush a) (dp_get (dp_nx h)))
def dqR_181 (r : List UInt8) : Option (Instr × Nat) := match r with | x :: y :: _ => some (.putfield (x.toNat * 256 + y.toNat), 3) | _ => none
theorem dqO_181 {c : ByteArray} {p n : Nat} {i : Instr} {r : List UInt8} (h : c.data.toList.drop p = 181 :: r) (hq : dqR_181 r = some (i, n)) : decode c p = .ok (i, n) := by
  match r, h, hq with
  | [], _, hq => cases hq
  | [_], _, hq => cases hq
  | x :: y :: r2, h, hq =>
    cases hq
    exact dc_gen (dp_get h) _ rfl (rn_u2 (fun a => .putfield a) (dp_get (dp_nx h)) (dp_get (dp_nx (dp_nx h))))
def dqR_153 (r : List UInt8) : Option (Instr × Nat) := match r with | x :: y :: _ => some (.ifCond .eq (Reader.signed 16 (x.toNat * 256 + y.toNat)), 3) | _ => none
theorem dqO_153 {c : ByteArray} {p n : Nat} {i : Instr} {r : List UInt8} (h : c.data.toList.drop p = 153 :: r) (hq : dqR_153 r = some (i, n)) : decode c p = .ok (i, n) := by
  match r, h, hq with
  | [], _, hq => cases hq
  | [_], _, hq => cases hq
  | x :: y :: r2, h, hq =>
    cases hq
    exact dc_gen (dp_get h) _ rfl (rn_s2 (fun a => .ifCond .eq a) (dp_get (dp_nx h)) (dp_get (dp_nx (dp_nx h))))
def dqR_154 (r : List UInt8) : Option (Instr × Nat) := match r with | x :: y :: _ => some (.ifCond .ne (Reader.signed 16 (x.toNat * 256 + y.toNat)), 3) | _ => none
theorem dqO_154 {c : ByteArray} {p n : Nat} {i : Instr} {r : List UInt8} (h : c.data.toList.drop p = 154 :: r) (hq : dqR_154 r = some (i, n)) : decode c p = .ok (i, n) := by
  match r, h, hq with
  | [], _, hq => cases hq
  | [_], _, hq => cases hq
  | x :: y :: r2, h, hq =>
    cases hq
    exact dc_gen (dp_get h) _ rfl (rn_s2 (fun a => .ifCond .ne a) (dp_get (dp_nx h)) (dp_get (dp_nx (dp_nx h))))
def dqR_184 (r : List UInt8) : Option (Instr × Nat) := match r with | x :: y :: _ => some (.invokestatic (x.toNat * 256 + y.toNat), 3) | _ => none
theorem dqO_184 {c : ByteArray} {p n : Nat} {i : Instr} {r : List UInt8} (h : c.data.toList.drop p = 184 :: r) (hq : dqR_184 r = some (i, n)) : decode c p = .ok (i, n) := by
  match r, h, hq with
  | [], _, hq => cases hq
  | [_], _, hq => cases hq
  | x :: y :: r2, h, hq =>
    cases hq
    exact dc_gen (dp_get h) _ rfl (rn_u2 (fun a => .invokestatic a) (dp_get (dp_nx h)) (dp_get (dp_nx (dp_nx h))))
def dqR_54 (r : List UInt8) : Option (Instr × Nat) := match r with | x :: _ => some (.istore (x.toNat), 2) | [] => none
theorem dqO_54 {c : ByteArray} {p n : Nat} {i : Instr} {r : List UInt8} (h : c.data.toList.drop p = 54 :: r) (hq : dqR_54 r = some (i, n)) : decode c p = .ok (i, n) := by
  match r, h, hq with
  | [], _, hq => cases hq
  | x :: r2, h, hq =>
    cases hq
    exact dc_gen (dp_get h) _ rfl (rn_u1 (fun a => .istore a) (dp_get (dp_nx h)))
def dqR_132 (r : List UInt8) : Option (Instr × Nat) := match r with | x :: y :: _ => some (.iinc x.toNat (Reader.signed 8 y.toNat), 3) | _ => none
theorem dqO_132 {c : ByteArray} {p n : Nat} {i : Instr} {r : List UInt8} (h : c.data.toList.drop p = 132 :: r) (hq : dqR_132 r = some (i, n)) : decode c p = .ok (i, n) := by
  match r, h, hq with
  | [], _, hq => cases hq
  | [_], _, hq => cases hq
  | x :: y :: r2, h, hq =>
    cases hq
    exact dc_gen (dp_get h) _ rfl (rn_us (fun a b => .iinc a b) (dp_get (dp_nx h)) (dp_get (dp_nx (dp_nx h))))
def dqR_43 (r : List UInt8) : Option (Instr × Nat) := some (.aload_n 1, 1)
theorem dqO_43 {c : ByteArray} {p n : Nat} {i : Instr} {r : List UInt8} (h : c.data.toList.drop p = 43 :: r) (hq : dqR_43 r = some (i, n)) : decode c p = .ok (i, n) := by
  cases hq
  exact dc_gen (dp_get h) _ rfl rfl
def dqR_5 (r : List UInt8) : Option (Instr × Nat) := some (.iconst 2, 1)
theorem dqO_5 {c : ByteArray} {p n : Nat} {i : Instr} {r : List UInt8} (h : c.data.toList.drop p = 5 :: r) (hq : dqR_5 r = some (i, n)) : decode c p = .ok (i, n) := by
  cases hq
  exact dc_gen (dp_get h) _ rfl rfl
def dqR_87 (r : List UInt8) : Option (Instr × Nat) := some (.pop, 1)
theorem dqO_87 {c : ByteArray} {p n : Nat} {i : Instr} {r : List UInt8} (h : c.data.toList.drop p = 87 :: r) (hq : dqR_87 r = some (i, n)) : decode c p = .ok (i, n) := by
  cases hq
  exact dc_gen (dp_get h) _ rfl rfl
def dqR_62 (r : List UInt8) : Option (Instr × Nat) := some (.istore_n 3, 1)
theorem dqO_62 {c : ByteArray} {p n : Nat} {i : Instr} {r : List UInt8} (h : c.data.toList.drop p = 62 :: r) (hq : dqR_62 r = some (i, n)) : decode c p = .ok (i, n) := by
  cases hq
  exact dc_gen (dp_get h) _ rfl rfl
def dqR_162 (r : List UInt8) : Option (Instr × Nat) := match r with | x :: y :: _ => some (.if_icmp .ge (Reader.signed 16 (x.toNat * 256 + y.toNat)), 3) | _ => none
theorem dqO_162 {c : ByteArray} {p n : Nat} {i : Instr} {r : List UInt8} (h : c.data.toList.drop p = 162 :: r) (hq : dqR_162 r = some (i, n)) : decode c p = .ok (i, n) := by
  match r, h, hq with
  | [], _, hq => cases hq
  | [_], _, hq => cases hq
  | x :: y :: r2, h, hq =>
    cases hq
    exact dc_gen (dp_get h) _ rfl (rn_s2 (fun a => .if_icmp .ge a) (dp_get (dp_nx h)) (dp_get (dp_nx (dp_nx h))))
def dqR_177 (r : List UInt8) : Option (Instr × Nat) := some (.return_, 1)
theorem dqO_177 {c : ByteArray} {p n : Nat} {i : Instr} {r : List UInt8} (h : c.data.toList.drop p = 177 :: r) (hq : dqR_177 r = some (i, n)) : decode c p = .ok (i, n) := by
  cases hq
  exact dc_gen (dp_get h) _ rfl rfl
def dqR_100 (r : List UInt8) : Option (Instr × Nat) := some (.isub, 1)
theorem dqO_100 {c : ByteArray} {p n : Nat} {i : Instr} {r : List UInt8} (h : c.data.toList.drop p = 100 :: r) (hq : dqR_100 r = some (i, n)) : decode c p = .ok (i, n) := by
  cases hq
  exact dc_gen (dp_get h) _ rfl rfl
def dqR_44 (r : List UInt8) : Option (Instr × Nat) := some (.aload_n 2, 1)
theorem dqO_44 {c : ByteArray} {p n : Nat} {i : Instr} {r : List UInt8} (h : c.data.toList.drop p = 44 :: r) (hq : dqR_44 r = some (i, n)) : decode c p = .ok (i, n) := by
  cases hq
  exact dc_gen (dp_get h) _ rfl rfl
def dqR_61 (r : List UInt8) : Option (Instr × Nat) := some (.istore_n 2, 1)
theorem dqO_61 {c : ByteArray} {p n : Nat} {i : Instr} {r : List UInt8} (h : c.data.toList.drop p = 61 :: r) (hq : dqR_61 r = some (i, n)) : decode c p = .ok (i, n) := by
  cases hq
  exact dc_gen (dp_get h) _ rfl rfl
def dqR_2 (r : List UInt8) : Option (Instr × Nat) := some (.iconst (-1), 1)
theorem dqO_2 {c : ByteArray} {p n : Nat} {i : Instr} {r : List UInt8} (h : c.data.toList.drop p = 2 :: r) (hq : dqR_2 r = some (i, n)) : decode c p = .ok (i, n) := by
  cases hq
  exact dc_gen (dp_get h) _ rfl rfl
def dqR_163 (r : List UInt8) : Option (Instr × Nat) := match r with | x :: y :: _ => some (.if_icmp .gt (Reader.signed 16 (x.toNat * 256 + y.toNat)), 3) | _ => none
theorem dqO_163 {c : ByteArray} {p n : Nat} {i : Instr} {r : List UInt8} (h : c.data.toList.drop p = 163 :: r) (hq : dqR_163 r = some (i, n)) : decode c p = .ok (i, n) := by
  match r, h, hq with
  | [], _, hq => cases hq
  | [_], _, hq => cases hq
  | x :: y :: r2, h, hq =>
    cases hq
    exact dc_gen (dp_get h) _ rfl (rn_s2 (fun a => .if_icmp .gt a) (dp_get (dp_nx h)) (dp_get (dp_nx (dp_nx h))))
def dqR_79 (r : List UInt8) : Option (Instr × Nat) := some (.iastore, 1)
theorem dqO_79 {c : ByteArray} {p n : Nat} {i : Instr} {r : List UInt8} (h : c.data.toList.drop p = 79 :: r) (hq : dqR_79 r = some (i, n)) : decode c p = .ok (i, n) := by
  cases hq
  exact dc_gen (dp_get h) _ rfl rfl
def dqR_160 (r : List UInt8) : Option (Instr × Nat) := match r with | x :: y :: _ => some (.if_icmp .ne (Reader.signed 16 (x.toNat * 256 + y.toNat)), 3) | _ => none
theorem dqO_160 {c : ByteArray} {p n : Nat} {i : Instr} {r : List UInt8} (h : c.data.toList.drop p = 160 :: r) (hq : dqR_160 r = some (i, n)) : decode c p = .ok (i, n) := by
  match r, h, hq with
  | [], _, hq => cases hq
  | [_], _, hq => cases hq
  | x :: y :: r2, h, hq =>
    cases hq
    exact dc_gen (dp_get h) _ rfl (rn_s2 (fun a => .if_icmp .ne a) (dp_get (dp_nx h)) (dp_get (dp_nx (dp_nx h))))
def dqR_133 (r : List UInt8) : Option (Instr × Nat) := some (.i2l, 1)
theorem dqO_133 {c : ByteArray} {p n : Nat} {i : Instr} {r : List UInt8} (h : c.data.toList.drop p = 133 :: r) (hq : dqR_133 r = some (i, n)) : decode c p = .ok (i, n) := by
  cases hq
  exact dc_gen (dp_get h) _ rfl rfl
def dqR_17 (r : List UInt8) : Option (Instr × Nat) := match r with | x :: y :: _ => some (.sipush (Reader.signed 16 (x.toNat * 256 + y.toNat)), 3) | _ => none
theorem dqO_17 {c : ByteArray} {p n : Nat} {i : Instr} {r : List UInt8} (h : c.data.toList.drop p = 17 :: r) (hq : dqR_17 r = some (i, n)) : decode c p = .ok (i, n) := by
  match r, h, hq with
  | [], _, hq => cases hq
  | [_], _, hq => cases hq
  | x :: y :: r2, h, hq =>
    cases hq
    exact dc_gen (dp_get h) _ rfl (rn_s2 (fun a => .sipush a) (dp_get (dp_nx h)) (dp_get (dp_nx (dp_nx h))))
def dqR_89 (r : List UInt8) : Option (Instr × Nat) := some (.dup, 1)
theorem dqO_89 {c : ByteArray} {p n : Nat} {i : Instr} {r : List UInt8} (h : c.data.toList.drop p = 89 :: r) (hq : dqR_89 r = some (i, n)) : decode c p = .ok (i, n) := by
  cases hq
  exact dc_gen (dp_get h) _ rfl rfl
def dqR_50 (r : List UInt8) : Option (Instr × Nat) := some (.aaload, 1)
theorem dqO_50 {c : ByteArray} {p n : Nat} {i : Instr} {r : List UInt8} (h : c.data.toList.drop p = 50 :: r) (hq : dqR_50 r = some (i, n)) : decode c p = .ok (i, n) := by
  cases hq
  exact dc_gen (dp_get h) _ rfl rfl
def dqR_26 (r : List UInt8) : Option (Instr × Nat) := some (.iload_n 0, 1)
theorem dqO_26 {c : ByteArray} {p n : Nat} {i : Instr} {r : List UInt8} (h : c.data.toList.drop p = 26 :: r) (hq : dqR_26 r = some (i, n)) : decode c p = .ok (i, n) := by
  cases hq
  exact dc_gen (dp_get h) _ rfl rfl
def dqR_104 (r : List UInt8) : Option (Instr × Nat) := some (.imul, 1)
theorem dqO_104 {c : ByteArray} {p n : Nat} {i : Instr} {r : List UInt8} (h : c.data.toList.drop p = 104 :: r) (hq : dqR_104 r = some (i, n)) : decode c p = .ok (i, n) := by
  cases hq
  exact dc_gen (dp_get h) _ rfl rfl
def dqR_159 (r : List UInt8) : Option (Instr × Nat) := match r with | x :: y :: _ => some (.if_icmp .eq (Reader.signed 16 (x.toNat * 256 + y.toNat)), 3) | _ => none
theorem dqO_159 {c : ByteArray} {p n : Nat} {i : Instr} {r : List UInt8} (h : c.data.toList.drop p = 159 :: r) (hq : dqR_159 r = some (i, n)) : decode c p = .ok (i, n) := by
  match r, h, hq with
  | [], _, hq => cases hq
  | [_], _, hq => cases hq
  | x :: y :: r2, h, hq =>
    cases hq
    exact dc_gen (dp_get h) _ rfl (rn_s2 (fun a => .if_icmp .eq a) (dp_get (dp_nx h)) (dp_get (dp_nx (dp_nx h))))
def dqR_18 (r : List UInt8) : Option (Instr × Nat) := match r with | x :: _ => some (.ldc (x.toNat), 2) | [] => none
theorem dqO_18 {c : ByteArray} {p n : Nat} {i : Instr} {r : List UInt8} (h : c.data.toList.drop p = 18 :: r) (hq : dqR_18 r = some (i, n)) : decode c p = .ok (i, n) := by
  match r, h, hq with
  | [], _, hq => cases hq
  | x :: r2, h, hq =>
    cases hq
    exact dc_gen (dp_get h) _ rfl (rn_u1 (fun a => .ldc a) (dp_get (dp_nx h)))
def dqR_6 (r : List UInt8) : Option (Instr × Nat) := some (.iconst 3, 1)
theorem dqO_6 {c : ByteArray} {p n : Nat} {i : Instr} {r : List UInt8} (h : c.data.toList.drop p = 6 :: r) (hq : dqR_6 r = some (i, n)) : decode c p = .ok (i, n) := by
  cases hq
  exact dc_gen (dp_get h) _ rfl rfl
def dqR_60 (r : List UInt8) : Option (Instr × Nat) := some (.istore_n 1, 1)
theorem dqO_60 {c : ByteArray} {p n : Nat} {i : Instr} {r : List UInt8} (h : c.data.toList.drop p = 60 :: r) (hq : dqR_60 r = some (i, n)) : decode c p = .ok (i, n) := by
  cases hq
  exact dc_gen (dp_get h) _ rfl rfl
def dqR_45 (r : List UInt8) : Option (Instr × Nat) := some (.aload_n 3, 1)
theorem dqO_45 {c : ByteArray} {p n : Nat} {i : Instr} {r : List UInt8} (h : c.data.toList.drop p = 45 :: r) (hq : dqR_45 r = some (i, n)) : decode c p = .ok (i, n) := by
  cases hq
  exact dc_gen (dp_get h) _ rfl rfl
def dqR_155 (r : List UInt8) : Option (Instr × Nat) := match r with | x :: y :: _ => some (.ifCond .lt (Reader.signed 16 (x.toNat * 256 + y.toNat)), 3) | _ => none
theorem dqO_155 {c : ByteArray} {p n : Nat} {i : Instr} {r : List UInt8} (h : c.data.toList.drop p = 155 :: r) (hq : dqR_155 r = some (i, n)) : decode c p = .ok (i, n) := by
  match r, h, hq with
  | [], _, hq => cases hq
  | [_], _, hq => cases hq
  | x :: y :: r2, h, hq =>
    cases hq
    exact dc_gen (dp_get h) _ rfl (rn_s2 (fun a => .ifCond .lt a) (dp_get (dp_nx h)) (dp_get (dp_nx (dp_nx h))))
def dqR_183 (r : List UInt8) : Option (Instr × Nat) := match r with | x :: y :: _ => some (.invokespecial (x.toNat * 256 + y.toNat), 3) | _ => none
theorem dqO_183 {c : ByteArray} {p n : Nat} {i : Instr} {r : List UInt8} (h : c.data.toList.drop p = 183 :: r) (hq : dqR_183 r = some (i, n)) : decode c p = .ok (i, n) := by
  match r, h, hq with
  | [], _, hq => cases hq
  | [_], _, hq => cases hq
  | x :: y :: r2, h, hq =>
    cases hq
    exact dc_gen (dp_get h) _ rfl (rn_u2 (fun a => .invokespecial a) (dp_get (dp_nx h)) (dp_get (dp_nx (dp_nx h))))
def dqR_25 (r : List UInt8) : Option (Instr × Nat) := match r with | x :: _ => some (.aload (x.toNat), 2) | [] => none
theorem dqO_25 {c : ByteArray} {p n : Nat} {i : Instr} {r : List UInt8} (h : c.data.toList.drop p = 25 :: r) (hq : dqR_25 r = some (i, n)) : decode c p = .ok (i, n) := by
  match r, h, hq with
  | [], _, hq => cases hq
  | x :: r2, h, hq =>
    cases hq
    exact dc_gen (dp_get h) _ rfl (rn_u1 (fun a => .aload a) (dp_get (dp_nx h)))
def dqR_164 (r : List UInt8) : Option (Instr × Nat) := match r with | x :: y :: _ => some (.if_icmp .le (Reader.signed 16 (x.toNat * 256 + y.toNat)), 3) | _ => none
theorem dqO_164 {c : ByteArray} {p n : Nat} {i : Instr} {r : List UInt8} (h : c.data.toList.drop p = 164 :: r) (hq : dqR_164 r = some (i, n)) : decode c p = .ok (i, n) := by
  match r, h, hq with
  | [], _, hq => cases hq
  | [_], _, hq => cases hq
  | x :: y :: r2, h, hq =>
    cases hq
    exact dc_gen (dp_get h) _ rfl (rn_s2 (fun a => .if_icmp .le a) (dp_get (dp_nx h)) (dp_get (dp_nx (dp_nx h))))
def dqR_161 (r : List UInt8) : Option (Instr × Nat) := match r with | x :: y :: _ => some (.if_icmp .lt (Reader.signed 16 (x.toNat * 256 + y.toNat)), 3) | _ => none
theorem dqO_161 {c : ByteArray} {p n : Nat} {i : Instr} {r : List UInt8} (h : c.data.toList.drop p = 161 :: r) (hq : dqR_161 r = some (i, n)) : decode c p = .ok (i, n) := by
  match r, h, hq with
  | [], _, hq => cases hq
  | [_], _, hq => cases hq
  | x :: y :: r2, h, hq =>
    cases hq
    exact dc_gen (dp_get h) _ rfl (rn_s2 (fun a => .if_icmp .lt a) (dp_get (dp_nx h)) (dp_get (dp_nx (dp_nx h))))
def dqR_120 (r : List UInt8) : Option (Instr × Nat) := some (.ishl, 1)
theorem dqO_120 {c : ByteArray} {p n : Nat} {i : Instr} {r : List UInt8} (h : c.data.toList.drop p = 120 :: r) (hq : dqR_120 r = some (i, n)) : decode c p = .ok (i, n) := by
  cases hq
  exact dc_gen (dp_get h) _ rfl rfl
def dqR_9 (r : List UInt8) : Option (Instr × Nat) := some (.lconst 0, 1)
theorem dqO_9 {c : ByteArray} {p n : Nat} {i : Instr} {r : List UInt8} (h : c.data.toList.drop p = 9 :: r) (hq : dqR_9 r = some (i, n)) : decode c p = .ok (i, n) := by
  cases hq
  exact dc_gen (dp_get h) _ rfl rfl
def dqR_158 (r : List UInt8) : Option (Instr × Nat) := match r with | x :: y :: _ => some (.ifCond .le (Reader.signed 16 (x.toNat * 256 + y.toNat)), 3) | _ => none
theorem dqO_158 {c : ByteArray} {p n : Nat} {i : Instr} {r : List UInt8} (h : c.data.toList.drop p = 158 :: r) (hq : dqR_158 r = some (i, n)) : decode c p = .ok (i, n) := by
  match r, h, hq with
  | [], _, hq => cases hq
  | [_], _, hq => cases hq
  | x :: y :: r2, h, hq =>
    cases hq
    exact dc_gen (dp_get h) _ rfl (rn_s2 (fun a => .ifCond .le a) (dp_get (dp_nx h)) (dp_get (dp_nx (dp_nx h))))
def dqR_20 (r : List UInt8) : Option (Instr × Nat) := match r with | x :: y :: _ => some (.ldc2_w (x.toNat * 256 + y.toNat), 3) | _ => none
theorem dqO_20 {c : ByteArray} {p n : Nat} {i : Instr} {r : List UInt8} (h : c.data.toList.drop p = 20 :: r) (hq : dqR_20 r = some (i, n)) : decode c p = .ok (i, n) := by
  match r, h, hq with
  | [], _, hq => cases hq
  | [_], _, hq => cases hq
  | x :: y :: r2, h, hq =>
    cases hq
    exact dc_gen (dp_get h) _ rfl (rn_u2 (fun a => .ldc2_w a) (dp_get (dp_nx h)) (dp_get (dp_nx (dp_nx h))))
def dqR_126 (r : List UInt8) : Option (Instr × Nat) := some (.iand, 1)
theorem dqO_126 {c : ByteArray} {p n : Nat} {i : Instr} {r : List UInt8} (h : c.data.toList.drop p = 126 :: r) (hq : dqR_126 r = some (i, n)) : decode c p = .ok (i, n) := by
  cases hq
  exact dc_gen (dp_get h) _ rfl rfl
def dqR_187 (r : List UInt8) : Option (Instr × Nat) := match r with | x :: y :: _ => some (.new (x.toNat * 256 + y.toNat), 3) | _ => none
theorem dqO_187 {c : ByteArray} {p n : Nat} {i : Instr} {r : List UInt8} (h : c.data.toList.drop p = 187 :: r) (hq : dqR_187 r = some (i, n)) : decode c p = .ok (i, n) := by
  match r, h, hq with
  | [], _, hq => cases hq
  | [_], _, hq => cases hq
  | x :: y :: r2, h, hq =>
    cases hq
    exact dc_gen (dp_get h) _ rfl (rn_u2 (fun a => .new a) (dp_get (dp_nx h)) (dp_get (dp_nx (dp_nx h))))
def dqR_19 (r : List UInt8) : Option (Instr × Nat) := match r with | x :: y :: _ => some (.ldc_w (x.toNat * 256 + y.toNat), 3) | _ => none
theorem dqO_19 {c : ByteArray} {p n : Nat} {i : Instr} {r : List UInt8} (h : c.data.toList.drop p = 19 :: r) (hq : dqR_19 r = some (i, n)) : decode c p = .ok (i, n) := by
  match r, h, hq with
  | [], _, hq => cases hq
  | [_], _, hq => cases hq
  | x :: y :: r2, h, hq =>
    cases hq
    exact dc_gen (dp_get h) _ rfl (rn_u2 (fun a => .ldc_w a) (dp_get (dp_nx h)) (dp_get (dp_nx (dp_nx h))))
def dqR_128 (r : List UInt8) : Option (Instr × Nat) := some (.ior, 1)
theorem dqO_128 {c : ByteArray} {p n : Nat} {i : Instr} {r : List UInt8} (h : c.data.toList.drop p = 128 :: r) (hq : dqR_128 r = some (i, n)) : decode c p = .ok (i, n) := by
  cases hq
  exact dc_gen (dp_get h) _ rfl rfl
def dqR_8 (r : List UInt8) : Option (Instr × Nat) := some (.iconst 5, 1)
theorem dqO_8 {c : ByteArray} {p n : Nat} {i : Instr} {r : List UInt8} (h : c.data.toList.drop p = 8 :: r) (hq : dqR_8 r = some (i, n)) : decode c p = .ok (i, n) := by
  cases hq
  exact dc_gen (dp_get h) _ rfl rfl
def dqR_7 (r : List UInt8) : Option (Instr × Nat) := some (.iconst 4, 1)
theorem dqO_7 {c : ByteArray} {p n : Nat} {i : Instr} {r : List UInt8} (h : c.data.toList.drop p = 7 :: r) (hq : dqR_7 r = some (i, n)) : decode c p = .ok (i, n) := by
  cases hq
  exact dc_gen (dp_get h) _ rfl rfl
def dqR_51 (r : List UInt8) : Option (Instr × Nat) := some (.baload, 1)
theorem dqO_51 {c : ByteArray} {p n : Nat} {i : Instr} {r : List UInt8} (h : c.data.toList.drop p = 51 :: r) (hq : dqR_51 r = some (i, n)) : decode c p = .ok (i, n) := by
  cases hq
  exact dc_gen (dp_get h) _ rfl rfl
def dqR_78 (r : List UInt8) : Option (Instr × Nat) := some (.astore_n 3, 1)
theorem dqO_78 {c : ByteArray} {p n : Nat} {i : Instr} {r : List UInt8} (h : c.data.toList.drop p = 78 :: r) (hq : dqR_78 r = some (i, n)) : decode c p = .ok (i, n) := by
  cases hq
  exact dc_gen (dp_get h) _ rfl rfl
def dqR_124 (r : List UInt8) : Option (Instr × Nat) := some (.iushr, 1)
theorem dqO_124 {c : ByteArray} {p n : Nat} {i : Instr} {r : List UInt8} (h : c.data.toList.drop p = 124 :: r) (hq : dqR_124 r = some (i, n)) : decode c p = .ok (i, n) := by
  cases hq
  exact dc_gen (dp_get h) _ rfl rfl
def dqR_10 (r : List UInt8) : Option (Instr × Nat) := some (.lconst 1, 1)
theorem dqO_10 {c : ByteArray} {p n : Nat} {i : Instr} {r : List UInt8} (h : c.data.toList.drop p = 10 :: r) (hq : dqR_10 r = some (i, n)) : decode c p = .ok (i, n) := by
  cases hq
  exact dc_gen (dp_get h) _ rfl rfl
def dqR_58 (r : List UInt8) : Option (Instr × Nat) := match r with | x :: _ => some (.astore (x.toNat), 2) | [] => none
theorem dqO_58 {c : ByteArray} {p n : Nat} {i : Instr} {r : List UInt8} (h : c.data.toList.drop p = 58 :: r) (hq : dqR_58 r = some (i, n)) : decode c p = .ok (i, n) := by
  match r, h, hq with
  | [], _, hq => cases hq
  | x :: r2, h, hq =>
    cases hq
    exact dc_gen (dp_get h) _ rfl (rn_u1 (fun a => .astore a) (dp_get (dp_nx h)))
def dqR_122 (r : List UInt8) : Option (Instr × Nat) := some (.ishr, 1)
theorem dqO_122 {c : ByteArray} {p n : Nat} {i : Instr} {r : List UInt8} (h : c.data.toList.drop p = 122 :: r) (hq : dqR_122 r = some (i, n)) : decode c p = .ok (i, n) := by
  cases hq
  exact dc_gen (dp_get h) _ rfl rfl
def dqR_84 (r : List UInt8) : Option (Instr × Nat) := some (.bastore, 1)
theorem dqO_84 {c : ByteArray} {p n : Nat} {i : Instr} {r : List UInt8} (h : c.data.toList.drop p = 84 :: r) (hq : dqR_84 r = some (i, n)) : decode c p = .ok (i, n) := by
  cases hq
  exact dc_gen (dp_get h) _ rfl rfl
def dqR_190 (r : List UInt8) : Option (Instr × Nat) := some (.arraylength, 1)
theorem dqO_190 {c : ByteArray} {p n : Nat} {i : Instr} {r : List UInt8} (h : c.data.toList.drop p = 190 :: r) (hq : dqR_190 r = some (i, n)) : decode c p = .ok (i, n) := by
  cases hq
  exact dc_gen (dp_get h) _ rfl rfl
def dqR_77 (r : List UInt8) : Option (Instr × Nat) := some (.astore_n 2, 1)
theorem dqO_77 {c : ByteArray} {p n : Nat} {i : Instr} {r : List UInt8} (h : c.data.toList.drop p = 77 :: r) (hq : dqR_77 r = some (i, n)) : decode c p = .ok (i, n) := by
  cases hq
  exact dc_gen (dp_get h) _ rfl rfl
def dqR_22 (r : List UInt8) : Option (Instr × Nat) := match r with | x :: _ => some (.lload (x.toNat), 2) | [] => none
theorem dqO_22 {c : ByteArray} {p n : Nat} {i : Instr} {r : List UInt8} (h : c.data.toList.drop p = 22 :: r) (hq : dqR_22 r = some (i, n)) : decode c p = .ok (i, n) := by
  match r, h, hq with
  | [], _, hq => cases hq
  | x :: r2, h, hq =>
    cases hq
    exact dc_gen (dp_get h) _ rfl (rn_u1 (fun a => .lload a) (dp_get (dp_nx h)))
def dqR_156 (r : List UInt8) : Option (Instr × Nat) := match r with | x :: y :: _ => some (.ifCond .ge (Reader.signed 16 (x.toNat * 256 + y.toNat)), 3) | _ => none
theorem dqO_156 {c : ByteArray} {p n : Nat} {i : Instr} {r : List UInt8} (h : c.data.toList.drop p = 156 :: r) (hq : dqR_156 r = some (i, n)) : decode c p = .ok (i, n) := by
  match r, h, hq with
  | [], _, hq => cases hq
  | [_], _, hq => cases hq
  | x :: y :: r2, h, hq =>
    cases hq
    exact dc_gen (dp_get h) _ rfl (rn_s2 (fun a => .ifCond .ge a) (dp_get (dp_nx h)) (dp_get (dp_nx (dp_nx h))))
def dqR_178 (r : List UInt8) : Option (Instr × Nat) := match r with | x :: y :: _ => some (.getstatic (x.toNat * 256 + y.toNat), 3) | _ => none
theorem dqO_178 {c : ByteArray} {p n : Nat} {i : Instr} {r : List UInt8} (h : c.data.toList.drop p = 178 :: r) (hq : dqR_178 r = some (i, n)) : decode c p = .ok (i, n) := by
  match r, h, hq with
  | [], _, hq => cases hq
  | [_], _, hq => cases hq
  | x :: y :: r2, h, hq =>
    cases hq
    exact dc_gen (dp_get h) _ rfl (rn_u2 (fun a => .getstatic a) (dp_get (dp_nx h)) (dp_get (dp_nx (dp_nx h))))
def dqR_55 (r : List UInt8) : Option (Instr × Nat) := match r with | x :: _ => some (.lstore (x.toNat), 2) | [] => none
theorem dqO_55 {c : ByteArray} {p n : Nat} {i : Instr} {r : List UInt8} (h : c.data.toList.drop p = 55 :: r) (hq : dqR_55 r = some (i, n)) : decode c p = .ok (i, n) := by
  match r, h, hq with
  | [], _, hq => cases hq
  | x :: r2, h, hq =>
    cases hq
    exact dc_gen (dp_get h) _ rfl (rn_u1 (fun a => .lstore a) (dp_get (dp_nx h)))
def dqR_105 (r : List UInt8) : Option (Instr × Nat) := some (.lmul, 1)
theorem dqO_105 {c : ByteArray} {p n : Nat} {i : Instr} {r : List UInt8} (h : c.data.toList.drop p = 105 :: r) (hq : dqR_105 r = some (i, n)) : decode c p = .ok (i, n) := by
  cases hq
  exact dc_gen (dp_get h) _ rfl rfl
def dqR_97 (r : List UInt8) : Option (Instr × Nat) := some (.ladd, 1)
theorem dqO_97 {c : ByteArray} {p n : Nat} {i : Instr} {r : List UInt8} (h : c.data.toList.drop p = 97 :: r) (hq : dqR_97 r = some (i, n)) : decode c p = .ok (i, n) := by
  cases hq
  exact dc_gen (dp_get h) _ rfl rfl
def dqR_112 (r : List UInt8) : Option (Instr × Nat) := some (.irem, 1)
theorem dqO_112 {c : ByteArray} {p n : Nat} {i : Instr} {r : List UInt8} (h : c.data.toList.drop p = 112 :: r) (hq : dqR_112 r = some (i, n)) : decode c p = .ok (i, n) := by
  cases hq
  exact dc_gen (dp_get h) _ rfl rfl
def dqR_145 (r : List UInt8) : Option (Instr × Nat) := some (.i2b, 1)
theorem dqO_145 {c : ByteArray} {p n : Nat} {i : Instr} {r : List UInt8} (h : c.data.toList.drop p = 145 :: r) (hq : dqR_145 r = some (i, n)) : decode c p = .ok (i, n) := by
  cases hq
  exact dc_gen (dp_get h) _ rfl rfl
def dqR_59 (r : List UInt8) : Option (Instr × Nat) := some (.istore_n 0, 1)
theorem dqO_59 {c : ByteArray} {p n : Nat} {i : Instr} {r : List UInt8} (h : c.data.toList.drop p = 59 :: r) (hq : dqR_59 r = some (i, n)) : decode c p = .ok (i, n) := by
  cases hq
  exact dc_gen (dp_get h) _ rfl rfl
def dqR_108 (r : List UInt8) : Option (Instr × Nat) := some (.idiv, 1)
theorem dqO_108 {c : ByteArray} {p n : Nat} {i : Instr} {r : List UInt8} (h : c.data.toList.drop p = 108 :: r) (hq : dqR_108 r = some (i, n)) : decode c p = .ok (i, n) := by
  cases hq
  exact dc_gen (dp_get h) _ rfl rfl
def dqR_92 (r : List UInt8) : Option (Instr × Nat) := some (.dup2, 1)
theorem dqO_92 {c : ByteArray} {p n : Nat} {i : Instr} {r : List UInt8} (h : c.data.toList.drop p = 92 :: r) (hq : dqR_92 r = some (i, n)) : decode c p = .ok (i, n) := by
  cases hq
  exact dc_gen (dp_get h) _ rfl rfl
def dqR_116 (r : List UInt8) : Option (Instr × Nat) := some (.ineg, 1)
theorem dqO_116 {c : ByteArray} {p n : Nat} {i : Instr} {r : List UInt8} (h : c.data.toList.drop p = 116 :: r) (hq : dqR_116 r = some (i, n)) : decode c p = .ok (i, n) := by
  cases hq
  exact dc_gen (dp_get h) _ rfl rfl
def dqR_189 (r : List UInt8) : Option (Instr × Nat) := match r with | x :: y :: _ => some (.anewarray (x.toNat * 256 + y.toNat), 3) | _ => none
theorem dqO_189 {c : ByteArray} {p n : Nat} {i : Instr} {r : List UInt8} (h : c.data.toList.drop p = 189 :: r) (hq : dqR_189 r = some (i, n)) : decode c p = .ok (i, n) := by
  match r, h, hq with
  | [], _, hq => cases hq
  | [_], _, hq => cases hq
  | x :: y :: r2, h, hq =>
    cases hq
    exact dc_gen (dp_get h) _ rfl (rn_u2 (fun a => .anewarray a) (dp_get (dp_nx h)) (dp_get (dp_nx (dp_nx h))))
def dqR_83 (r : List UInt8) : Option (Instr × Nat) := some (.aastore, 1)
theorem dqO_83 {c : ByteArray} {p n : Nat} {i : Instr} {r : List UInt8} (h : c.data.toList.drop p = 83 :: r) (hq : dqR_83 r = some (i, n)) : decode c p = .ok (i, n) := by
  cases hq
  exact dc_gen (dp_get h) _ rfl rfl
def dqR_32 (r : List UInt8) : Option (Instr × Nat) := some (.lload_n 2, 1)
theorem dqO_32 {c : ByteArray} {p n : Nat} {i : Instr} {r : List UInt8} (h : c.data.toList.drop p = 32 :: r) (hq : dqR_32 r = some (i, n)) : decode c p = .ok (i, n) := by
  cases hq
  exact dc_gen (dp_get h) _ rfl rfl
def dqR_148 (r : List UInt8) : Option (Instr × Nat) := some (.lcmp, 1)
theorem dqO_148 {c : ByteArray} {p n : Nat} {i : Instr} {r : List UInt8} (h : c.data.toList.drop p = 148 :: r) (hq : dqR_148 r = some (i, n)) : decode c p = .ok (i, n) := by
  cases hq
  exact dc_gen (dp_get h) _ rfl rfl
def dqR_176 (r : List UInt8) : Option (Instr × Nat) := some (.areturn, 1)
theorem dqO_176 {c : ByteArray} {p n : Nat} {i : Instr} {r : List UInt8} (h : c.data.toList.drop p = 176 :: r) (hq : dqR_176 r = some (i, n)) : decode c p = .ok (i, n) := by
  cases hq
  exact dc_gen (dp_get h) _ rfl rfl
def dqR_47 (r : List UInt8) : Option (Instr × Nat) := some (.laload, 1)
theorem dqO_47 {c : ByteArray} {p n : Nat} {i : Instr} {r : List UInt8} (h : c.data.toList.drop p = 47 :: r) (hq : dqR_47 r = some (i, n)) : decode c p = .ok (i, n) := by
  cases hq
  exact dc_gen (dp_get h) _ rfl rfl
def dqR_80 (r : List UInt8) : Option (Instr × Nat) := some (.lastore, 1)
theorem dqO_80 {c : ByteArray} {p n : Nat} {i : Instr} {r : List UInt8} (h : c.data.toList.drop p = 80 :: r) (hq : dqR_80 r = some (i, n)) : decode c p = .ok (i, n) := by
  cases hq
  exact dc_gen (dp_get h) _ rfl rfl
def dqR_76 (r : List UInt8) : Option (Instr × Nat) := some (.astore_n 1, 1)
theorem dqO_76 {c : ByteArray} {p n : Nat} {i : Instr} {r : List UInt8} (h : c.data.toList.drop p = 76 :: r) (hq : dqR_76 r = some (i, n)) : decode c p = .ok (i, n) := by
  cases hq
  exact dc_gen (dp_get h) _ rfl rfl
def dqR_30 (r : List UInt8) : Option (Instr × Nat) := some (.lload_n 0, 1)
theorem dqO_30 {c : ByteArray} {p n : Nat} {i : Instr} {r : List UInt8} (h : c.data.toList.drop p = 30 :: r) (hq : dqR_30 r = some (i, n)) : decode c p = .ok (i, n) := by
  cases hq
  exact dc_gen (dp_get h) _ rfl rfl
def dqR_146 (r : List UInt8) : Option (Instr × Nat) := some (.i2c, 1)
theorem dqO_146 {c : ByteArray} {p n : Nat} {i : Instr} {r : List UInt8} (h : c.data.toList.drop p = 146 :: r) (hq : dqR_146 r = some (i, n)) : decode c p = .ok (i, n) := by
  cases hq
  exact dc_gen (dp_get h) _ rfl rfl
def dqR_191 (r : List UInt8) : Option (Instr × Nat) := some (.athrow, 1)
theorem dqO_191 {c : ByteArray} {p n : Nat} {i : Instr} {r : List UInt8} (h : c.data.toList.drop p = 191 :: r) (hq : dqR_191 r = some (i, n)) : decode c p = .ok (i, n) := by
  cases hq
  exact dc_gen (dp_get h) _ rfl rfl
def dqR_173 (r : List UInt8) : Option (Instr × Nat) := some (.lreturn, 1)
theorem dqO_173 {c : ByteArray} {p n : Nat} {i : Instr} {r : List UInt8} (h : c.data.toList.drop p = 173 :: r) (hq : dqR_173 r = some (i, n)) : decode c p = .ok (i, n) := by
  cases hq
  exact dc_gen (dp_get h) _ rfl rfl
def dqR_130 (r : List UInt8) : Option (Instr × Nat) := some (.ixor, 1)
theorem dqO_130 {c : ByteArray} {p n : Nat} {i : Instr} {r : List UInt8} (h : c.data.toList.drop p = 130 :: r) (hq : dqR_130 r = some (i, n)) : decode c p = .ok (i, n) := by
  cases hq
  exact dc_gen (dp_get h) _ rfl rfl
def dqR_157 (r : List UInt8) : Option (Instr × Nat) := match r with | x :: y :: _ => some (.ifCond .gt (Reader.signed 16 (x.toNat * 256 + y.toNat)), 3) | _ => none
theorem dqO_157 {c : ByteArray} {p n : Nat} {i : Instr} {r : List UInt8} (h : c.data.toList.drop p = 157 :: r) (hq : dqR_157 r = some (i, n)) : decode c p = .ok (i, n) := by
  match r, h, hq with
  | [], _, hq => cases hq
  | [_], _, hq => cases hq
  | x :: y :: r2, h, hq =>
    cases hq
    exact dc_gen (dp_get h) _ rfl (rn_s2 (fun a => .ifCond .gt a) (dp_get (dp_nx h)) (dp_get (dp_nx (dp_nx h))))
def dqB (b : UInt8) (r : List UInt8) : Option (Instr × Nat) := (if b < 92 then (if b < 42 then (if b < 18 then (if b < 7 then (if b < 4 then (if b < 3 then (if b = 2 then dqR_2 r else none) else (if b = 3 then dqR_3 r else none)) else (if b < 5 then (if b = 4 then dqR_4 r else none) else (if b < 6 then (if b = 5 then dqR_5 r else none) else (if b = 6 then dqR_6 r else none)))) else (if b < 10 then (if b < 8 then (if b = 7 then dqR_7 r else none) else (if b < 9 then (if b = 8 then dqR_8 r else none) else (if b = 9 then dqR_9 r else none))) else (if b < 16 then (if b = 10 then dqR_10 r else none) else (if b < 17 then (if b = 16 then dqR_16 r else none) else (if b = 17 then dqR_17 r else none))))) else (if b < 26 then (if b < 21 then (if b < 19 then (if b = 18 then dqR_18 r else none) else (if b < 20 then (if b = 19 then dqR_19 r else none) else (if b = 20 then dqR_20 r else none))) else (if b < 22 then (if b = 21 then dqR_21 r else none) else (if b < 25 then (if b = 22 then dqR_22 r else none) else (if b = 25 then dqR_25 r else none)))) else (if b < 29 then (if b < 27 then (if b = 26 then dqR_26 r else none) else (if b < 28 then (if b = 27 then dqR_27 r else none) else (if b = 28 then dqR_28 r else none))) else (if b < 30 then (if b = 29 then dqR_29 r else none) else (if b < 32 then (if b = 30 then dqR_30 r else none) else (if b = 32 then dqR_32 r else none)))))) else (if b < 60 then (if b < 50 then (if b < 45 then (if b < 43 then (if b = 42 then dqR_42 r else none) else (if b < 44 then (if b = 43 then dqR_43 r else none) else (if b = 44 then dqR_44 r else none))) else (if b < 46 then (if b = 45 then dqR_45 r else none) else (if b < 47 then (if b = 46 then dqR_46 r else none) else (if b = 47 then dqR_47 r else none)))) else (if b < 55 then (if b < 51 then (if b = 50 then dqR_50 r else none) else (if b < 54 then (if b = 51 then dqR_51 r else none) else (if b = 54 then dqR_54 r else none))) else (if b < 58 then (if b = 55 then dqR_55 r else none) else (if b < 59 then (if b = 58 then dqR_58 r else none) else (if b = 59 then dqR_59 r else none))))) else (if b < 79 then (if b < 76 then (if b < 61 then (if b = 60 then dqR_60 r else none) else (if b < 62 then (if b = 61 then dqR_61 r else none) else (if b = 62 then dqR_62 r else none))) else (if b < 77 then (if b = 76 then dqR_76 r else none) else (if b < 78 then (if b = 77 then dqR_77 r else none) else (if b = 78 then dqR_78 r else none)))) else (if b < 84 then (if b < 80 then (if b = 79 then dqR_79 r else none) else (if b < 83 then (if b = 80 then dqR_80 r else none) else (if b = 83 then dqR_83 r else none))) else (if b < 87 then (if b = 84 then dqR_84 r else none) else (if b < 89 then (if b = 87 then dqR_87 r else none) else (if b = 89 then dqR_89 r else none))))))) else (if b < 156 then (if b < 124 then (if b < 105 then (if b < 97 then (if b < 96 then (if b = 92 then dqR_92 r else none) else (if b = 96 then dqR_96 r else none)) else (if b < 100 then (if b = 97 then dqR_97 r else none) else (if b < 104 then (if b = 100 then dqR_100 r else none) else (if b = 104 then dqR_104 r else none)))) else (if b < 116 then (if b < 108 then (if b = 105 then dqR_105 r else none) else (if b < 112 then (if b = 108 then dqR_108 r else none) else (if b = 112 then dqR_112 r else none))) else (if b < 120 then (if b = 116 then dqR_116 r else none) else (if b < 122 then (if b = 120 then dqR_120 r else none) else (if b = 122 then dqR_122 r else none))))) else (if b < 145 then (if b < 130 then (if b < 126 then (if b = 124 then dqR_124 r else none) else (if b < 128 then (if b = 126 then dqR_126 r else none) else (if b = 128 then dqR_128 r else none))) else (if b < 132 then (if b = 130 then dqR_130 r else none) else (if b < 133 then (if b = 132 then dqR_132 r else none) else (if b = 133 then dqR_133 r else none)))) else (if b < 153 then (if b < 146 then (if b = 145 then dqR_145 r else none) else (if b < 148 then (if b = 146 then dqR_146 r else none) else (if b = 148 then dqR_148 r else none))) else (if b < 154 then (if b = 153 then dqR_153 r else none) else (if b < 155 then (if b = 154 then dqR_154 r else none) else (if b = 155 then dqR_155 r else none)))))) else (if b < 176 then (if b < 162 then (if b < 159 then (if b < 157 then (if b = 156 then dqR_156 r else none) else (if b < 158 then (if b = 157 then dqR_157 r else none) else (if b = 158 then dqR_158 r else none))) else (if b < 160 then (if b = 159 then dqR_159 r else none) else (if b < 161 then (if b = 160 then dqR_160 r else none) else (if b = 161 then dqR_161 r else none)))) else (if b < 167 then (if b < 163 then (if b = 162 then dqR_162 r else none) else (if b < 164 then (if b = 163 then dqR_163 r else none) else (if b = 164 then dqR_164 r else none))) else (if b < 172 then (if b = 167 then dqR_167 r else none) else (if b < 173 then (if b = 172 then dqR_172 r else none) else (if b = 173 then dqR_173 r else none))))) else (if b < 183 then (if b < 180 then (if b < 177 then (if b = 176 then dqR_176 r else none) else (if b < 178 then (if b = 177 then dqR_177 r else none) else (if b = 178 then dqR_178 r else none))) else (if b < 181 then (if b = 180 then dqR_180 r else none) else (if b < 182 then (if b = 181 then dqR_181 r else none) else (if b = 182 then dqR_182 r else none)))) else (if b < 189 then (if b < 184 then (if b = 183 then dqR_183 r else none) else (if b < 187 then (if b = 184 then dqR_184 r else none) else (if b = 187 then dqR_187 r else none))) else (if b < 190 then (if b = 189 then dqR_189 r else none) else (if b < 191 then (if b = 190 then dqR_190 r else none) else (if b = 191 then dqR_191 r else none))))))))
theorem dqB_ok {c : ByteArray} {p n : Nat} {i : Instr} {b : UInt8} {r : List UInt8} (h : c.data.toList.drop p = b :: r) (hq : dqB b r = some (i, n)) : decode c p = .ok (i, n) := by
  unfold dqB at hq
  by_cases e : b < 92
  · rw [if_pos e] at hq
    by_cases e : b < 42
    · rw [if_pos e] at hq
      by_cases e : b < 18
      · rw [if_pos e] at hq
        by_cases e : b < 7
        · rw [if_pos e] at hq
          by_cases e : b < 4
          · rw [if_pos e] at hq
            by_cases e : b < 3
            · rw [if_pos e] at hq
              by_cases e : b = 2
              · rw [if_pos e] at hq
                subst e
                exact dqO_2 h hq
              · rw [if_neg e] at hq
                cases hq
            · rw [if_neg e] at hq
              by_cases e : b = 3
              · rw [if_pos e] at hq
                subst e
                exact dqO_3 h hq
              · rw [if_neg e] at hq
                cases hq
          · rw [if_neg e] at hq
            by_cases e : b < 5
            · rw [if_pos e] at hq
              by_cases e : b = 4
              · rw [if_pos e] at hq
                subst e
                exact dqO_4 h hq
              · rw [if_neg e] at hq
                cases hq
            · rw [if_neg e] at hq
              by_cases e : b < 6
              · rw [if_pos e] at hq
                by_cases e : b = 5
                · rw [if_pos e] at hq
                  subst e
                  exact dqO_5 h hq
                · rw [if_neg e] at hq
                  cases hq
              · rw [if_neg e] at hq
                by_cases e : b = 6
                · rw [if_pos e] at hq
                  subst e
                  exact dqO_6 h hq
                · rw [if_neg e] at hq
                  cases hq
        · rw [if_neg e] at hq
          by_cases e : b < 10
          · rw [if_pos e] at hq
            by_cases e : b < 8
            · rw [if_pos e] at hq
              by_cases e : b = 7
              · rw [if_pos e] at hq
                subst e
                exact dqO_7 h hq
              · rw [if_neg e] at hq
                cases hq
            · rw [if_neg e] at hq
              by_cases e : b < 9
              · rw [if_pos e] at hq
                by_cases e : b = 8
                · rw [if_pos e] at hq
                  subst e
                  exact dqO_8 h hq
                · rw [if_neg e] at hq
                  cases hq
              · rw [if_neg e] at hq
                by_cases e : b = 9
                · rw [if_pos e] at hq
                  subst e
                  exact dqO_9 h hq
                · rw [if_neg e] at hq
                  cases hq
          · rw [if_neg e] at hq
            by_cases e : b < 16
            · rw [if_pos e] at hq
              by_cases e : b = 10
              · rw [if_pos e] at hq
                subst e
                exact dqO_10 h hq
              · rw [if_neg e] at hq
                cases hq
            · rw [if_neg e] at hq
              by_cases e : b < 17
              · rw [if_pos e] at hq
                by_cases e : b = 16
                · rw [if_pos e] at hq
                  subst e
                  exact dqO_16 h hq
                · rw [if_neg e] at hq
                  cases hq
              · rw [if_neg e] at hq
                by_cases e : b = 17
                · rw [if_pos e] at hq
                  subst e
                  exact dqO_17 h hq
                · rw [if_neg e] at hq
                  cases hq
      · rw [if_neg e] at hq
        by_cases e : b < 26
        · rw [if_pos e] at hq
          by_cases e : b < 21
          · rw [if_pos e] at hq
            by_cases e : b < 19
            · rw [if_pos e] at hq
              by_cases e : b = 18
              · rw [if_pos e] at hq
                subst e
                exact dqO_18 h hq
              · rw [if_neg e] at hq
                cases hq
            · rw [if_neg e] at hq
              by_cases e : b < 20
              · rw [if_pos e] at hq
                by_cases e : b = 19
                · rw [if_pos e] at hq
                  subst e
                  exact dqO_19 h hq
                · rw [if_neg e] at hq
                  cases hq
              · rw [if_neg e] at hq
                by_cases e : b = 20
                · rw [if_pos e] at hq
                  subst e
                  exact dqO_20 h hq
                · rw [if_neg e] at hq
                  cases hq
          · rw [if_neg e] at hq
            by_cases e : b < 22
            · rw [if_pos e] at hq
              by_cases e : b = 21
              · rw [if_pos e] at hq
                subst e
                exact dqO_21 h hq
              · rw [if_neg e] at hq
                cases hq
            · rw [if_neg e] at hq
              by_cases e : b < 25
              · rw [if_pos e] at hq
                by_cases e : b = 22
                · rw [if_pos e] at hq
                  subst e
                  exact dqO_22 h hq
                · rw [if_neg e] at hq
                  cases hq
              · rw [if_neg e] at hq
                by_cases e : b = 25
                · rw [if_pos e] at hq
                  subst e
                  exact dqO_25 h hq
                · rw [if_neg e] at hq
                  cases hq
        · rw [if_neg e] at hq
          by_cases e : b < 29
          · rw [if_pos e] at hq
            by_cases e : b < 27
            · rw [if_pos e] at hq
              by_cases e : b = 26
              · rw [if_pos e] at hq
                subst e
                exact dqO_26 h hq
              · rw [if_neg e] at hq
                cases hq
            · rw [if_neg e] at hq
              by_cases e : b < 28
              · rw [if_pos e] at hq
                by_cases e : b = 27
                · rw [if_pos e] at hq
                  subst e
                  exact dqO_27 h hq
                · rw [if_neg e] at hq
                  cases hq
              · rw [if_neg e] at hq
                by_cases e : b = 28
                · rw [if_pos e] at hq
                  subst e
                  exact dqO_28 h hq
                · rw [if_neg e] at hq
                  cases hq
          · rw [if_neg e] at hq
            by_cases e : b < 30
            · rw [if_pos e] at hq
              by_cases e : b = 29
              · rw [if_pos e] at hq
                subst e
                exact dqO_29 h hq
              · rw [if_neg e] at hq
                cases hq
            · rw [if_neg e] at hq
              by_cases e : b < 32
              · rw [if_pos e] at hq
                by_cases e : b = 30
                · rw [if_pos e] at hq
                  subst e
                  exact dqO_30 h hq
                · rw [if_neg e] at hq
                  cases hq
              · rw [if_neg e] at hq
                by_cases e : b = 32
                · rw [if_pos e] at hq
                  subst e
                  exact dqO_32 h hq
                · rw [if_neg e] at hq
                  cases hq
    · rw [if_neg e] at hq
      by_cases e : b < 60
      · rw [if_pos e] at hq
        by_cases e : b < 50
        · rw [if_pos e] at hq
          by_cases e : b < 45
          · rw [if_pos e] at hq
            by_cases e : b < 43
            · rw [if_pos e] at hq
              by_cases e : b = 42
              · rw [if_pos e] at hq
                subst e
                exact dqO_42 h hq
              · rw [if_neg e] at hq
                cases hq
            · rw [if_neg e] at hq
              by_cases e : b < 44
              · rw [if_pos e] at hq
                by_cases e : b = 43
                · rw [if_pos e] at hq
                  subst e
                  exact dqO_43 h hq
                · rw [if_neg e] at hq
                  cases hq
              · rw [if_neg e] at hq
                by_cases e : b = 44
                · rw [if_pos e] at hq
                  subst e
                  exact dqO_44 h hq
                · rw [if_neg e] at hq
                  cases hq
          · rw [if_neg e] at hq
            by_cases e : b < 46
            · rw [if_pos e] at hq
              by_cases e : b = 45
              · rw [if_pos e] at hq
                subst e
                exact dqO_45 h hq
              · rw [if_neg e] at hq
                cases hq
            · rw [if_neg e] at hq
              by_cases e : b < 47
              · rw [if_pos e] at hq
                by_cases e : b = 46
                · rw [if_pos e] at hq
                  subst e
                  exact dqO_46 h hq
                · rw [if_neg e] at hq
                  cases hq
              · rw [if_neg e] at hq
                by_cases e : b = 47
                · rw [if_pos e] at hq
                  subst e
                  exact dqO_47 h hq
                · rw [if_neg e] at hq
                  cases hq
        · rw [if_neg e] at hq
          by_cases e : b < 55
          · rw [if_pos e] at hq
            by_cases e : b < 51
            · rw [if_pos e] at hq
              by_cases e : b = 50
              · rw [if_pos e] at hq
                subst e
                exact dqO_50 h hq
              · rw [if_neg e] at hq
                cases hq
            · rw [if_neg e] at hq
              by_cases e : b < 54
              · rw [if_pos e] at hq
                by_cases e : b = 51
                · rw [if_pos e] at hq
                  subst e
                  exact dqO_51 h hq
                · rw [if_neg e] at hq
                  cases hq
              · rw [if_neg e] at hq
                by_cases e : b = 54
                · rw [if_pos e] at hq
                  subst e
                  exact dqO_54 h hq
                · rw [if_neg e] at hq
                  cases hq
          · rw [if_neg e] at hq
            by_cases e : b < 58
            · rw [if_pos e] at hq
              by_cases e : b = 55
              · rw [if_pos e] at hq
                subst e
                exact dqO_55 h hq
              · rw [if_neg e] at hq
                cases hq
            · rw [if_neg e] at hq
              by_cases e : b < 59
              · rw [if_pos e] at hq
                by_cases e : b = 58
                · rw [if_pos e] at hq
                  subst e
                  exact dqO_58 h hq
                · rw [if_neg e] at hq
                  cases hq
              · rw [if_neg e] at hq
                by_cases e : b = 59
                · rw [if_pos e] at hq
                  subst e
                  exact dqO_59 h hq
                · rw [if_neg e] at hq
                  cases hq
      · rw [if_neg e] at hq
        by_cases e : b < 79
        · rw [if_pos e] at hq
          by_cases e : b < 76
          · rw [if_pos e] at hq
            by_cases e : b < 61
            · rw [if_pos e] at hq
              by_cases e : b = 60
              · rw [if_pos e] at hq
                subst e
                exact dqO_60 h hq
              · rw [if_neg e] at hq
                cases hq
            · rw [if_neg e] at hq
              by_cases e : b < 62
              · rw [if_pos e] at hq
                by_cases e : b = 61
                · rw [if_pos e] at hq
                  subst e
                  exact dqO_61 h hq
                · rw [if_neg e] at hq
                  cases hq
              · rw [if_neg e] at hq
                by_cases e : b = 62
                · rw [if_pos e] at hq
                  subst e
                  exact dqO_62 h hq
                · rw [if_neg e] at hq
                  cases hq
          · rw [if_neg e] at hq
            by_cases e : b < 77
            · rw [if_pos e] at hq
              by_cases e : b = 76
              · rw [if_pos e] at hq
                subst e
                exact dqO_76 h hq
              · rw [if_neg e] at hq
                cases hq
            · rw [if_neg e] at hq
              by_cases e : b < 78
              · rw [if_pos e] at hq
                by_cases e : b = 77
                · rw [if_pos e] at hq
                  subst e
                  exact dqO_77 h hq
                · rw [if_neg e] at hq
                  cases hq
              · rw [if_neg e] at hq
                by_cases e : b = 78
                · rw [if_pos e] at hq
                  subst e
                  exact dqO_78 h hq
                · rw [if_neg e] at hq
                  cases hq
        · rw [if_neg e] at hq
          by_cases e : b < 84
          · rw [if_pos e] at hq
            by_cases e : b < 80
            · rw [if_pos e] at hq
              by_cases e : b = 79
              · rw [if_pos e] at hq
                subst e
                exact dqO_79 h hq
              · rw [if_neg e] at hq
                cases hq
            · rw [if_neg e] at hq
              by_cases e : b < 83
              · rw [if_pos e] at hq
                by_cases e : b = 80
                · rw [if_pos e] at hq
                  subst e
                  exact dqO_80 h hq
                · rw [if_neg e] at hq
                  cases hq
              · rw [if_neg e] at hq
                by_cases e : b = 83
                · rw [if_pos e] at hq
                  subst e
                  exact dqO_83 h hq
                · rw [if_neg e] at hq
                  cases hq
          · rw [if_neg e] at hq
            by_cases e : b < 87
            · rw [if_pos e] at hq
              by_cases e : b = 84
              · rw [if_pos e] at hq
                subst e
                exact dqO_84 h hq
              · rw [if_neg e] at hq
                cases hq
            · rw [if_neg e] at hq
              by_cases e : b < 89
              · rw [if_pos e] at hq
                by_cases e : b = 87
                · rw [if_pos e] at hq
                  subst e
                  exact dqO_87 h hq
                · rw [if_neg e] at hq
                  cases hq
              · rw [if_neg e] at hq
                by_cases e : b = 89
                · rw [if_pos e] at hq
                  subst e
                  exact dqO_89 h hq
                · rw [if_neg e] at hq
                  cases hq
  · rw [if_neg e] at hq
    by_cases e : b < 156
    · rw [if_pos e] at hq
      by_cases e : b < 124
      · rw [if_pos e] at hq
        by_cases e : b < 105
        · rw [if_pos e] at hq
          by_cases e : b < 97
          · rw [if_pos e] at hq
            by_cases e : b < 96
            · rw [if_pos e] at hq
              by_cases e : b = 92
              · rw [if_pos e] at hq
                subst e
                exact dqO_92 h hq
              · rw [if_neg e] at hq
                cases hq
            · rw [if_neg e] at hq
              by_cases e : b = 96
              · rw [if_pos e] at hq
                subst e
                exact dqO_96 h hq
              · rw [if_neg e] at hq
                cases hq
          · rw [if_neg e] at hq
            by_cases e : b < 100
            · rw [if_pos e] at hq
              by_cases e : b = 97
              · rw [if_pos e] at hq
                subst e
                exact dqO_97 h hq
              · rw [if_neg e] at hq
                cases hq
            · rw [if_neg e] at hq
              by_cases e : b < 104
              · rw [if_pos e] at hq
                by_cases e : b = 100
                · rw [if_pos e] at hq
                  subst e
                  exact dqO_100 h hq
                · rw [if_neg e] at hq
                  cases hq
              · rw [if_neg e] at hq
                by_cases e : b = 104
                · rw [if_pos e] at hq
                  subst e
                  exact dqO_104 h hq
                · rw [if_neg e] at hq
                  cases hq
        · rw [if_neg e] at hq
          by_cases e : b < 116
          · rw [if_pos e] at hq
            by_cases e : b < 108
            · rw [if_pos e] at hq
              by_cases e : b = 105
              · rw [if_pos e] at hq
                subst e
                exact dqO_105 h hq
              · rw [if_neg e] at hq
                cases hq
            · rw [if_neg e] at hq
              by_cases e : b < 112
              · rw [if_pos e] at hq
                by_cases e : b = 108
                · rw [if_pos e] at hq
                  subst e
                  exact dqO_108 h hq
                · rw [if_neg e] at hq
                  cases hq
              · rw [if_neg e] at hq
                by_cases e : b = 112
                · rw [if_pos e] at hq
                  subst e
                  exact dqO_112 h hq
                · rw [if_neg e] at hq
                  cases hq
          · rw [if_neg e] at hq
            by_cases e : b < 120
            · rw [if_pos e] at hq
              by_cases e : b = 116
              · rw [if_pos e] at hq
                subst e
                exact dqO_116 h hq
              · rw [if_neg e] at hq
                cases hq
            · rw [if_neg e] at hq
              by_cases e : b < 122
              · rw [if_pos e] at hq
                by_cases e : b = 120
                · rw [if_pos e] at hq
                  subst e
                  exact dqO_120 h hq
                · rw [if_neg e] at hq
                  cases hq
              · rw [if_neg e] at hq
                by_cases e : b = 122
                · rw [if_pos e] at hq
                  subst e
                  exact dqO_122 h hq
                · rw [if_neg e] at hq
                  cases hq
      · rw [if_neg e] at hq
        by_cases e : b < 145
        · rw [if_pos e] at hq
          by_cases e : b < 130
          · rw [if_pos e] at hq
            by_cases e : b < 126
            · rw [if_pos e] at hq
              by_cases e : b = 124
              · rw [if_pos e] at hq
                subst e
                exact dqO_124 h hq
              · rw [if_neg e] at hq
                cases hq
            · rw [if_neg e] at hq
              by_cases e : b < 128
              · rw [if_pos e] at hq
                by_cases e : b = 126
                · rw [if_pos e] at hq
                  subst e
                  exact dqO_126 h hq
                · rw [if_neg e] at hq
                  cases hq
              · rw [if_neg e] at hq
                by_cases e : b = 128
                · rw [if_pos e] at hq
                  subst e
                  exact dqO_128 h hq
                · rw [if_neg e] at hq
                  cases hq
          · rw [if_neg e] at hq
            by_cases e : b < 132
            · rw [if_pos e] at hq
              by_cases e : b = 130
              · rw [if_pos e] at hq
                subst e
                exact dqO_130 h hq
              · rw [if_neg e] at hq
                cases hq
            · rw [if_neg e] at hq
              by_cases e : b < 133
              · rw [if_pos e] at hq
                by_cases e : b = 132
                · rw [if_pos e] at hq
                  subst e
                  exact dqO_132 h hq
                · rw [if_neg e] at hq
                  cases hq
              · rw [if_neg e] at hq
                by_cases e : b = 133
                · rw [if_pos e] at hq
                  subst e
                  exact dqO_133 h hq
                · rw [if_neg e] at hq
                  cases hq
        · rw [if_neg e] at hq
          by_cases e : b < 153
          · rw [if_pos e] at hq
            by_cases e : b < 146
            · rw [if_pos e] at hq
              by_cases e : b = 145
              · rw [if_pos e] at hq
                subst e
                exact dqO_145 h hq
              · rw [if_neg e] at hq
                cases hq
            · rw [if_neg e] at hq
              by_cases e : b < 148
              · rw [if_pos e] at hq
                by_cases e : b = 146
                · rw [if_pos e] at hq
                  subst e
                  exact dqO_146 h hq
                · rw [if_neg e] at hq
                  cases hq
              · rw [if_neg e] at hq
                by_cases e : b = 148
                · rw [if_pos e] at hq
                  subst e
                  exact dqO_148 h hq
                · rw [if_neg e] at hq
                  cases hq
          · rw [if_neg e] at hq
            by_cases e : b < 154
            · rw [if_pos e] at hq
              by_cases e : b = 153
              · rw [if_pos e] at hq
                subst e
                exact dqO_153 h hq
              · rw [if_neg e] at hq
                cases hq
            · rw [if_neg e] at hq
              by_cases e : b < 155
              · rw [if_pos e] at hq
                by_cases e : b = 154
                · rw [if_pos e] at hq
                  subst e
                  exact dqO_154 h hq
                · rw [if_neg e] at hq
                  cases hq
              · rw [if_neg e] at hq
                by_cases e : b = 155
                · rw [if_pos e] at hq
                  subst e
                  exact dqO_155 h hq
                · rw [if_neg e] at hq
                  cases hq
    · rw [if_neg e] at hq
      by_cases e : b < 176
      · rw [if_pos e] at hq
        by_cases e : b < 162
        · rw [if_pos e] at hq
          by_cases e : b < 159
          · rw [if_pos e] at hq
            by_cases e : b < 157
            · rw [if_pos e] at hq
              by_cases e : b = 156
              · rw [if_pos e] at hq
                subst e
                exact dqO_156 h hq
              · rw [if_neg e] at hq
                cases hq
            · rw [if_neg e] at hq
              by_cases e : b < 158
              · rw [if_pos e] at hq
                by_cases e : b = 157
                · rw [if_pos e] at hq
                  subst e
                  exact dqO_157 h hq
                · rw [if_neg e] at hq
                  cases hq
              · rw [if_neg e] at hq
                by_cases e : b = 158
                · rw [if_pos e] at hq
                  subst e
                  exact dqO_158 h hq
                · rw [if_neg e] at hq
                  cases hq
          · rw [if_neg e] at hq
            by_cases e : b < 160
            · rw [if_pos e] at hq
              by_cases e : b = 159
              · rw [if_pos e] at hq
                subst e
                exact dqO_159 h hq
              · rw [if_neg e] at hq
                cases hq
            · rw [if_neg e] at hq
              by_cases e : b < 161
              · rw [if_pos e] at hq
                by_cases e : b = 160
                · rw [if_pos e] at hq
                  subst e
                  exact dqO_160 h hq
                · rw [if_neg e] at hq
                  cases hq
              · rw [if_neg e] at hq
                by_cases e : b = 161
                · rw [if_pos e] at hq
                  subst e
                  exact dqO_161 h hq
                · rw [if_neg e] at hq
                  cases hq
        · rw [if_neg e] at hq
          by_cases e : b < 167
          · rw [if_pos e] at hq
            by_cases e : b < 163
            · rw [if_pos e] at hq
              by_cases e : b = 162
              · rw [if_pos e] at hq
                subst e
                exact dqO_162 h hq
              · rw [if_neg e] at hq
                cases hq
            · rw [if_neg e] at hq
              by_cases e : b < 164
              · rw [if_pos e] at hq
                by_cases e : b = 163
                · rw [if_pos e] at hq
                  subst e
                  exact dqO_163 h hq
                · rw [if_neg e] at hq
                  cases hq
              · rw [if_neg e] at hq
                by_cases e : b = 164
                · rw [if_pos e] at hq
                  subst e
                  exact dqO_164 h hq
                · rw [if_neg e] at hq
                  cases hq
          · rw [if_neg e] at hq
            by_cases e : b < 172
            · rw [if_pos e] at hq
              by_cases e : b = 167
              · rw [if_pos e] at hq
                subst e
                exact dqO_167 h hq
              · rw [if_neg e] at hq
                cases hq
            · rw [if_neg e] at hq
              by_cases e : b < 173
              · rw [if_pos e] at hq
                by_cases e : b = 172
                · rw [if_pos e] at hq
                  subst e
                  exact dqO_172 h hq
                · rw [if_neg e] at hq
                  cases hq
              · rw [if_neg e] at hq
                by_cases e : b = 173
                · rw [if_pos e] at hq
                  subst e
                  exact dqO_173 h hq
                · rw [if_neg e] at hq
                  cases hq
      · rw [if_neg e] at hq
        by_cases e : b < 183
        · rw [if_pos e] at hq
          by_cases e : b < 180
          · rw [if_pos e] at hq
            by_cases e : b < 177
            · rw [if_pos e] at hq
              by_cases e : b = 176
              · rw [if_pos e] at hq
                subst e
                exact dqO_176 h hq
              · rw [if_neg e] at hq
                cases hq
            · rw [if_neg e] at hq
              by_cases e : b < 178
              · rw [if_pos e] at hq
                by_cases e : b = 177
                · rw [if_pos e] at hq
                  subst e
                  exact dqO_177 h hq
                · rw [if_neg e] at hq
                  cases hq
              · rw [if_neg e] at hq
                by_cases e : b = 178
                · rw [if_pos e] at hq
                  subst e
                  exact dqO_178 h hq
                · rw [if_neg e] at hq
                  cases hq
          · rw [if_neg e] at hq
            by_cases e : b < 181
            · rw [if_pos e] at hq
              by_cases e : b = 180
              · rw [if_pos e] at hq
                subst e
                exact dqO_180 h hq
              · rw [if_neg e] at hq
                cases hq
            · rw [if_neg e] at hq
              by_cases e : b < 182
              · rw [if_pos e] at hq
                by_cases e : b = 181
                · rw [if_pos e] at hq
                  subst e
                  exact dqO_181 h hq
                · rw [if_neg e] at hq
                  cases hq
              · rw [if_neg e] at hq
                by_cases e : b = 182
                · rw [if_pos e] at hq
                  subst e
                  exact dqO_182 h hq
                · rw [if_neg e] at hq
                  cases hq
        · rw [if_neg e] at hq
          by_cases e : b < 189
          · rw [if_pos e] at hq
            by_cases e : b < 184
            · rw [if_pos e] at hq
              by_cases e : b = 183
              · rw [if_pos e] at hq
                subst e
                exact dqO_183 h hq
              · rw [if_neg e] at hq
                cases hq
            · rw [if_neg e] at hq
              by_cases e : b < 187
              · rw [if_pos e] at hq
                by_cases e : b = 184
                · rw [if_pos e] at hq
                  subst e
                  exact dqO_184 h hq
                · rw [if_neg e] at hq
                  cases hq
              · rw [if_neg e] at hq
                by_cases e : b = 187
                · rw [if_pos e] at hq
                  subst e
                  exact dqO_187 h hq
                · rw [if_neg e] at hq
                  cases hq
          · rw [if_neg e] at hq
            by_cases e : b < 190
            · rw [if_pos e] at hq
              by_cases e : b = 189
              · rw [if_pos e] at hq
                subst e
                exact dqO_189 h hq
              · rw [if_neg e] at hq
                cases hq
            · rw [if_neg e] at hq
              by_cases e : b < 191
              · rw [if_pos e] at hq
                by_cases e : b = 190
                · rw [if_pos e] at hq
                  subst e
                  exact dqO_190 h hq
                · rw [if_neg e] at hq
                  cases hq
              · rw [if_neg e] at hq
                by_cases e : b = 191
                · rw [if_pos e] at hq
                  subst e
                  exact dqO_191 h hq
                · rw [if_neg e] at hq
                  cases hq
def dq : List UInt8 → Option (Instr × Nat)
  | [] => none
  | b :: r => dqB b r
theorem dq_ok {c : ByteArray} {p n : Nat} {i : Instr} {l : List UInt8} (h : c.data.toList.drop p = l) (hq : dq l = some (i, n)) : decode c p = .ok (i, n) := by
  cases l with
  | nil => cases hq
  | cons b r => exact dqB_ok h hq
def dkF (l : List UInt8) (pc : Nat) : List (Nat × Instr × Nat) → Bool
  | [] => true
  | q :: L => decide (pc ≤ q.1) && (decide (dq (l.drop (q.1 - pc)) = some q.2) && dkF ((l.drop (q.1 - pc)).drop q.2.2) (q.1 + q.2.2) L)
theorem dkF_ok {c : ByteArray} : ∀ (L : List (Nat × Instr × Nat)) (l : List UInt8) (pc : Nat), c.data.toList.drop pc = l → dkF l pc L = true → dkAll c L = true := by
  intro L
  induction L with
  | nil => intro l pc _ _; rfl
  | cons q L ih =>
    intro l pc h hF
    have hF : (decide (pc ≤ q.1) && (decide (dq (l.drop (q.1 - pc)) = some q.2) && dkF ((l.drop (q.1 - pc)).drop q.2.2) (q.1 + q.2.2) L)) = true := hF
    rw [Bool.and_eq_true, Bool.and_eq_true] at hF
    obtain ⟨h1, h2, h3⟩ := hF
    have h1 := of_decide_eq_true h1
    have h2 := of_decide_eq_true h2
    have e1 : c.data.toList.drop q.1 = l.drop (q.1 - pc) := by
      rw [← h, List.drop_drop]
      congr 1
      omega
    have e3 : c.data.toList.drop (q.1 + q.2.2) = (l.drop (q.1 - pc)).drop q.2.2 := by
      rw [← e1, List.drop_drop]
    have d : decode c q.1 = .ok (q.2.1, q.2.2) := dq_ok e1 h2
    show (decide (decode c q.1 = .ok (q.2.1, q.2.2)) && dkAll c L) = true
    rw [decide_eq_true d, Bool.true_and]
    exact ih _ _ e3 h3
theorem dk_fast {c : ByteArray} {L : List (Nat × Instr × Nat)} (h : dkF c.data.toList 0 L = true) : dkAll c L = true := dkF_ok L _ 0 rfl h
