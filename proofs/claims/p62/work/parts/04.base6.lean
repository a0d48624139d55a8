def bt (x : Int32) (i : Nat) : Bool := x.toBitVec.getLsbD i
theorem b_ext {x y : Int32} (h : ∀ i, i < 32 → bt x i = bt y i) : x = y := Int32.toBitVec_inj.mp (BitVec.eq_of_getLsbD_eq (fun i hi => h i hi))
theorem b_or (x y : Int32) (i : Nat) : bt (x ||| y) i = (bt x i || bt y i) := by unfold bt; rw [Int32.toBitVec_or, BitVec.getLsbD_or]
theorem b_and (x y : Int32) (i : Nat) : bt (x &&& y) i = (bt x i && bt y i) := by unfold bt; rw [Int32.toBitVec_and, BitVec.getLsbD_and]
theorem b_xor (x y : Int32) (i : Nat) : bt (x ^^^ y) i = (bt x i ^^ bt y i) := by unfold bt; rw [Int32.toBitVec_xor, BitVec.getLsbD_xor]
theorem b_big {x : Int32} {i : Nat} (h : 32 ≤ i) : bt x i = false := BitVec.getLsbD_of_ge _ _ h
theorem b_0 (i : Nat) : bt 0 i = false := BitVec.getLsbD_zero
theorem s_l : ∀ n, n < 32 → ((nI n &&& 31).toBitVec.smod 32).toNat = n := by decide +kernel
theorem s_u : ∀ n, n < 32 → (((nI n).toUInt32 &&& Int32.toUInt32 31).toBitVec % 32).toNat = n := by decide +kernel
theorem b_shl (n : Nat) (hn : n < 32) (x : Int32) {i : Nat} (hi : i < 32) : bt (x <<< (nI n &&& 31)) i = (decide (n ≤ i) && bt x (i - n)) := by
  unfold bt
  rw [Int32.toBitVec_shiftLeft]
  show (x.toBitVec <<< ((nI n &&& 31).toBitVec.smod 32).toNat).getLsbD i = _
  rw [s_l n hn, BitVec.getLsbD_shiftLeft]
  rcases Nat.lt_or_ge i n with h | h
  · simp [h, Nat.not_le.mpr h]
  · simp [hi, h, Nat.not_lt.mpr h]
theorem b_ushr (n : Nat) (hn : n < 32) (x : Int32) (i : Nat) : bt ((x.toUInt32 >>> ((nI n).toUInt32 &&& Int32.toUInt32 31)).toInt32) i = bt x (n + i) := by
  show (x.toUInt32 >>> ((nI n).toUInt32 &&& Int32.toUInt32 31)).toBitVec.getLsbD i = x.toUInt32.toBitVec.getLsbD (n + i)
  rw [UInt32.toBitVec_shiftRight]
  show (x.toUInt32.toBitVec >>> (((nI n).toUInt32 &&& Int32.toUInt32 31).toBitVec % 32).toNat).getLsbD i = _
  rw [s_u n hn, BitVec.getLsbD_ushiftRight]
theorem b_sshr (n : Nat) (hn : n < 32) (x : Int32) {i : Nat} (hi : i < 32) : bt (x >>> (nI n &&& 31)) i = if n + i < 32 then bt x (n + i) else bt x 31 := by
  unfold bt
  rw [Int32.toBitVec_shiftRight]
  show (x.toBitVec.sshiftRight ((nI n &&& 31).toBitVec.smod 32).toNat).getLsbD i = _
  rw [s_l n hn, BitVec.getLsbD_sshiftRight, BitVec.msb_eq_getLsbD_last]
  simp [hi]
-- one bit of a number
def oneBit (b k : Int32) : Prop := (b >>> (k &&& 31)) &&& 1 = 1
theorem bt_1 : ∀ i, i < 32 → bt 1 i = decide (i = 0) := by decide +kernel
theorem and1 (x : Int32) : x &&& 1 = 1 ↔ bt x 0 = true := by
  constructor
  · intro h
    have q : bt (x &&& 1) 0 = true := by rw [h]; decide +kernel
    rw [b_and] at q
    cases hx : bt x 0 with
    | true => rfl
    | false => rw [hx] at q; simp at q
  · intro h
    apply b_ext
    intro i hi
    rw [b_and, bt_1 i hi]
    by_cases c : i = 0
    · rw [c, h]; rfl
    · simp [c]
theorem and0 (x : Int32) : x &&& 1 = 0 ↔ ¬ x &&& 1 = 1 := by
  rw [and1]
  constructor
  · intro h q
    have e : bt (x &&& 1) 0 = false := by rw [h]; decide +kernel
    rw [b_and, q] at e
    simp [bt_1 0 (by decide)] at e
  · intro h
    apply b_ext
    intro i hi
    rw [b_and, bt_1 i hi, b_0]
    by_cases c : i = 0
    · rw [c]
      cases hx : bt x 0 with
      | true => exact absurd hx h
      | false => rfl
    · simp [c]
theorem nI_ofz {k : Int32} (h0 : 0 ≤ k.toInt) : k = nI k.toInt.toNat := by
  have := Int32.toInt_lt k
  apply Int32.toInt_inj.mp
  rw [nI_toInt (by omega)]
  omega
theorem oneBit_iff {b k : Int32} (h0 : 0 ≤ k.toInt) (h1 : k.toInt ≤ 7) : oneBit b k ↔ bt b k.toInt.toNat = true := by
  have q : ∀ n : Nat, n ≤ 7 → (oneBit b (nI n) ↔ bt b n = true) := by
    intro n hn
    unfold oneBit
    rw [and1, b_sshr n (by omega) b (by omega), if_pos (by omega), Nat.add_zero]
  have e := q k.toInt.toNat (by omega)
  rw [← nI_ofz h0] at e
  exact e
theorem oneBit_or {b k j : Int32} (h0 : 0 ≤ k.toInt) (h1 : k.toInt ≤ 7) (h2 : 0 ≤ j.toInt) (h3 : j.toInt ≤ 7) : oneBit (b ||| ((1 : Int32) <<< (k &&& 31))) j ↔ (j = k ∨ oneBit b j) := by
  rw [oneBit_iff h2 h3, oneBit_iff h2 h3, b_or, Bool.or_eq_true]
  have e : bt ((1 : Int32) <<< (k &&& 31)) j.toInt.toNat = true ↔ j = k := by
    rw [nI_ofz h0, b_shl k.toInt.toNat (by omega) 1 (by omega), Bool.and_eq_true, decide_eq_true_iff, bt_1 _ (by omega), decide_eq_true_iff]
    rw [← nI_ofz h0]
    constructor
    · intro q
      exact Int32.toInt_inj.mp (by omega)
    · intro q
      rw [q]
      omega
  rw [e]
  exact or_comm
theorem oneBit_0 (k : Int32) : ¬ oneBit 0 k := by
  unfold oneBit
  rw [z_ishr0]
  decide
-- images kept: the class's bits, the reference's row
def KP (b : Int32) (f : Nat → Int32) : Prop := ∀ k : Int32, 0 ≤ k.toInt → k.toInt ≤ 2 → (oneBit b k ↔ ¬ f k.toNatClampNeg = 0)
theorem KP.zero : KP 0 (fun _ => 0) := fun k _ _ => ⟨fun h => absurd h (oneBit_0 k), fun h => absurd rfl h⟩
theorem KP.put {b : Int32} {f : Nat → Int32} (h : KP b f) {k x : Int32} (h0 : 0 ≤ k.toInt) (h1 : k.toInt ≤ 2) (hx : ¬ x = 0) : KP (b ||| ((1 : Int32) <<< (k &&& 31))) (upd f k.toNatClampNeg x) := by
  intro j q0 q1
  rw [oneBit_or h0 (by omega) q0 (by omega), upd_at]
  have e1 := z_clv h0
  have e2 := z_clv q0
  by_cases c : j = k
  · rw [if_pos (by rw [c])]
    exact ⟨fun _ => hx, fun _ => Or.inl c⟩
  · rw [if_neg (fun q => c (Int32.toInt_inj.mp (by omega)))]
    rw [← h j q0 q1]
    exact ⟨fun q => q.resolve_left c, Or.inr⟩
def KI (a : Int) (b b' v : Int32) : Prop := (¬ (0 ≤ a ∧ a ≤ 2) ∧ b' = b) ∨ ((0 ≤ a ∧ a ≤ 2) ∧ b' = b ||| v)
def KJ (a : Int) (f f' g : Nat → Int32) : Prop := (¬ (0 ≤ a ∧ a ≤ 2) ∧ f' = f) ∨ ((0 ≤ a ∧ a ≤ 2) ∧ f' = g)
theorem KP.img {b b' : Int32} {f f' : Nat → Int32} (h : KP b f) {k x : Int32} (hx : ¬ x = 0) (h1 : KI k.toInt b b' ((1 : Int32) <<< (k &&& 31))) (h2 : KJ k.toInt f f' (upd f k.toNatClampNeg x)) : KP b' f' := by
  rcases h1 with ⟨q1, e1⟩ | ⟨q1, e1⟩
  · rcases h2 with ⟨q2, e2⟩ | ⟨q2, e2⟩
    · rw [e1, e2]; exact h
    · exact absurd q2 q1
  · rcases h2 with ⟨q2, e2⟩ | ⟨q2, e2⟩
    · exact absurd q1 q2
    · rw [e1, e2]; exact h.put q1.1 q1.2 hx
def BA (r a : Int) (st : Prop) : Prop := (r = -2 ∧ ¬ (0 ≤ a ∧ a ≤ 2)) ∨ ((0 ≤ a ∧ a ≤ 2) ∧ r = -6 ∧ ¬ st) ∨ ((0 ≤ a ∧ a ≤ 2) ∧ r = 0 ∧ st)
theorem BA.eq {r1 r2 a : Int} {s1 s2 : Prop} (h1 : BA r1 a s1) (h2 : BA r2 a s2) (h : 0 ≤ a → a ≤ 2 → (s1 ↔ s2)) : r1 = r2 := by
  rcases h1 with ⟨e1, q1⟩ | ⟨q1, e1, t1⟩ | ⟨q1, e1, t1⟩ <;> rcases h2 with ⟨e2, q2⟩ | ⟨q2, e2, t2⟩ | ⟨q2, e2, t2⟩
  · rw [e1, e2]
  · exact absurd q2 q1
  · exact absurd q2 q1
  · exact absurd q1 q2
  · rw [e1, e2]
  · exact absurd ((h q1.1 q1.2).mpr t2) t1
  · exact absurd q1 q2
  · exact absurd ((h q1.1 q1.2).mp t1) t2
  · rw [e1, e2]
-- rows: the class's bits, widths, lengths; the reference's widths and lengths
def RK (mk : Int32) (wd ln f1 f2 : Nat → Int32) : Prop := ∀ k : Int32, 0 ≤ k.toInt → k.toInt ≤ 3 → (oneBit mk k ↔ ¬ f1 k.toNatClampNeg = -1) ∧ (¬ f1 k.toNatClampNeg = -1 → wd k.toNatClampNeg = f1 k.toNatClampNeg) ∧ ln k.toNatClampNeg = f2 k.toNatClampNeg
theorem RK.zero {f1 : Nat → Int32} (h : ∀ j, j < 4 → f1 j = -1) : RK 0 (fun _ => 0) (fun _ => 0) f1 (fun _ => 0) := by
  intro k h0 h1
  have e := h k.toNatClampNeg (z_cl h0 (by omega))
  exact ⟨⟨fun q => absurd q (oneBit_0 k), fun q => absurd e q⟩, fun q => absurd e q, rfl⟩
theorem RK.put {mk : Int32} {wd ln f1 f2 : Nat → Int32} (h : RK mk wd ln f1 f2) {k w n : Int32} (h0 : 0 ≤ k.toInt) (h1 : k.toInt ≤ 3) (hw : 0 ≤ w.toInt) : RK (mk ||| ((1 : Int32) <<< (k &&& 31))) (upd wd k.toNatClampNeg w) (upd ln k.toNatClampNeg n) (upd f1 k.toNatClampNeg w) (upd f2 k.toNatClampNeg n) := by
  intro j q0 q1
  have e1 := z_clv h0
  have e2 := z_clv q0
  have hw1 : ¬ w = -1 := fun q => by rw [q] at hw; exact absurd hw (by decide)
  rw [oneBit_or h0 (by omega) q0 (by omega), upd_at, upd_at, upd_at, upd_at]
  by_cases c : j = k
  · have c2 : j.toNatClampNeg = k.toNatClampNeg := by rw [c]
    rw [if_pos c2, if_pos c2, if_pos c2, if_pos c2]
    exact ⟨⟨fun _ => hw1, fun _ => Or.inl c⟩, fun _ => rfl, rfl⟩
  · have c2 : ¬ j.toNatClampNeg = k.toNatClampNeg := fun q => c (Int32.toInt_inj.mp (by omega))
    rw [if_neg c2, if_neg c2, if_neg c2, if_neg c2]
    obtain ⟨a1, a2, a3⟩ := h j q0 q1
    exact ⟨⟨fun q => a1.mp (q.resolve_left c), fun q => Or.inr (a1.mpr q)⟩, a2, a3⟩
def RI (r : Int) (mk mk' v : Int32) (wd wd' wg ln ln' lg : Nat → Int32) : Prop := (¬ r = 0 ∧ mk' = mk ∧ wd' = wd ∧ ln' = ln) ∨ (r = 0 ∧ mk' = mk ||| v ∧ wd' = wg ∧ ln' = lg)
def RJ (r : Int) (wd wd' wg ln ln' lg : Nat → Int32) : Prop := (¬ r = 0 ∧ wd' = wd ∧ ln' = ln) ∨ (r = 0 ∧ wd' = wg ∧ ln' = lg)
def WA2 (r a i : Int) (st : Prop) (n : Int) : Prop := (r = -2 ∧ ¬ (0 ≤ a ∧ a ≤ 3)) ∨ ((0 ≤ a ∧ a ≤ 3) ∧ r = -6 ∧ ¬ st) ∨ ((0 ≤ a ∧ a ≤ 3) ∧ r = -7 ∧ st ∧ (i < 0 ∨ n ≤ i)) ∨ ((0 ≤ a ∧ a ≤ 3) ∧ r = 0 ∧ st ∧ 0 ≤ i ∧ i < n)
theorem WA2.eq {r1 r2 a i n1 n2 : Int} {s1 s2 : Prop} (h1 : WA2 r1 a i s1 n1) (h2 : WA2 r2 a i s2 n2) (h : 0 ≤ a → a ≤ 3 → (s1 ↔ s2) ∧ n1 = n2) : r1 = r2 := by
  rcases h1 with ⟨e1, q1⟩ | ⟨q1, e1, t1⟩ | ⟨q1, e1, t1, u1⟩ | ⟨q1, e1, t1, u1⟩ <;> rcases h2 with ⟨e2, q2⟩ | ⟨q2, e2, t2⟩ | ⟨q2, e2, t2, u2⟩ | ⟨q2, e2, t2, u2⟩ <;>
    first
    | (rw [e1, e2]; done)
    | exact absurd q2 q1
    | exact absurd q1 q2
    | exact absurd ((h q1.1 q1.2).1.mpr t2) t1
    | exact absurd ((h q1.1 q1.2).1.mp t1) t2
    | (have e := (h q1.1 q1.2).2; omega)
def PA2 (r a i b k n : Int) (sa sb lk : Prop) (na nb : Int) : Prop := (r = -2 ∧ ¬ ((0 ≤ a ∧ a ≤ 3) ∧ 0 ≤ b ∧ b ≤ 3)) ∨ (((0 ≤ a ∧ a ≤ 3) ∧ 0 ≤ b ∧ b ≤ 3) ∧ r = -6 ∧ ¬ (sa ∧ sb)) ∨ (((0 ≤ a ∧ a ≤ 3) ∧ 0 ≤ b ∧ b ≤ 3) ∧ r = -8 ∧ (sa ∧ sb) ∧ ¬ lk) ∨ (((0 ≤ a ∧ a ≤ 3) ∧ 0 ≤ b ∧ b ≤ 3) ∧ r = -7 ∧ (sa ∧ sb) ∧ lk ∧ (i < 0 ∨ k < 0 ∨ n < 0 ∨ na < i + n ∨ nb < k + n)) ∨ (((0 ≤ a ∧ a ≤ 3) ∧ 0 ≤ b ∧ b ≤ 3) ∧ r = 0 ∧ (sa ∧ sb) ∧ lk ∧ 0 ≤ i ∧ 0 ≤ k ∧ 0 ≤ n ∧ i + n ≤ na ∧ k + n ≤ nb)
theorem PA2.eq {r1 r2 a i b k n na nb na' nb' : Int} {sa sb lk sa' sb' lk' : Prop} (h1 : PA2 r1 a i b k n sa sb lk na nb) (h2 : PA2 r2 a i b k n sa' sb' lk' na' nb') (h : ((0 ≤ a ∧ a ≤ 3) ∧ 0 ≤ b ∧ b ≤ 3) → (sa ∧ sb ↔ sa' ∧ sb') ∧ (sa' ∧ sb' → (lk ↔ lk')) ∧ na = na' ∧ nb = nb') : r1 = r2 := by
  rcases h1 with ⟨e1, q1⟩ | ⟨q1, e1, t1⟩ | ⟨q1, e1, t1, u1⟩ | ⟨q1, e1, t1, u1, v1⟩ | ⟨q1, e1, t1, u1, v1⟩ <;> rcases h2 with ⟨e2, q2⟩ | ⟨q2, e2, t2⟩ | ⟨q2, e2, t2, u2⟩ | ⟨q2, e2, t2, u2, v2⟩ | ⟨q2, e2, t2, u2, v2⟩ <;>
    first
    | (rw [e1, e2]; done)
    | exact absurd q2 q1
    | exact absurd q1 q2
    | exact absurd ((h q1).1.mpr t2) t1
    | exact absurd ((h q1).1.mp t1) t2
    | exact absurd (((h q1).2.1 t2).mpr u2) u1
    | exact absurd (((h q1).2.1 t2).mp u1) u2
    | (obtain ⟨_, _, e3, e4⟩ := h q1; omega)
theorem RK.row {mk mk' : Int32} {wd wd' ln ln' f1 f1' f2 f2' : Nat → Int32} (h : RK mk wd ln f1 f2) {r1 r2 : Int} {k w n : Int32} (h1 : RI r1 mk mk' ((1 : Int32) <<< (k &&& 31)) wd wd' (upd wd k.toNatClampNeg w) ln ln' (upd ln k.toNatClampNeg n)) (h2 : RJ r2 f1 f1' (upd f1 k.toNatClampNeg w) f2 f2' (upd f2 k.toNatClampNeg n)) (e : r1 = r2) (hr : r1 = 0 → 0 ≤ k.toInt ∧ k.toInt ≤ 3 ∧ 0 ≤ w.toInt) : RK mk' wd' ln' f1' f2' := by
  rcases h1 with ⟨q1, a1, a2, a3⟩ | ⟨q1, a1, a2, a3⟩
  · rcases h2 with ⟨q2, b1, b2⟩ | ⟨q2, b1, b2⟩
    · rw [a1, a2, a3, b1, b2]; exact h
    · exact absurd (e.trans q2) q1
  · rcases h2 with ⟨q2, b1, b2⟩ | ⟨q2, b1, b2⟩
    · exact absurd (e.symm.trans q1) q2
    · obtain ⟨k0, k1, k2⟩ := hr q1
      rw [a1, a2, a3, b1, b2]; exact h.put k0 k1 k2
theorem RK.pst {mk : Int32} {wd ln f1 f2 : Nat → Int32} (h : RK mk wd ln f1 f2) {a b : Int32} (q : (0 ≤ a.toInt ∧ a.toInt ≤ 3) ∧ 0 ≤ b.toInt ∧ b.toInt ≤ 3) : (oneBit mk a ∧ oneBit mk b ↔ (¬ f1 a.toNatClampNeg = -1) ∧ ¬ f1 b.toNatClampNeg = -1) ∧ ((¬ f1 a.toNatClampNeg = -1) ∧ ¬ f1 b.toNatClampNeg = -1 → (wd a.toNatClampNeg = wd b.toNatClampNeg ↔ f1 a.toNatClampNeg = f1 b.toNatClampNeg)) ∧ (ln a.toNatClampNeg).toInt = (f2 a.toNatClampNeg).toInt ∧ (ln b.toNatClampNeg).toInt = (f2 b.toNatClampNeg).toInt := by
  obtain ⟨a1, a2, a3⟩ := h a q.1.1 q.1.2
  obtain ⟨b1, b2, b3⟩ := h b q.2.1 q.2.2
  refine ⟨and_congr a1 b1, fun hs => ?_, by rw [a3], by rw [b3]⟩
  rw [a2 hs.1, b2 hs.2]
