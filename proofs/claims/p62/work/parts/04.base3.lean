theorem PR.cp {n md r : Nat} {lo hi : Int} {f : Nat → Int32} (h : PR n md r lo hi f) {i j x : Int32} (e : x = f i.toNatClampNeg) (h0 : 0 ≤ i.toInt) (h1 : i.toInt < n) (hj : 0 ≤ j.toInt) (hm : (j.toInt - i.toInt) % md = 0) : PR n md r lo hi (upd f j.toNatClampNeg x) := by
  intro q hq hr
  show lo ≤ (if q = j.toNatClampNeg then x else f q).toInt ∧ (if q = j.toNatClampNeg then x else f q).toInt ≤ hi
  by_cases c : q = j.toNatClampNeg
  · rw [if_pos c, e]
    have e1 := z_clv h0
    have e2 := z_clv hj
    refine h _ (z_cl h0 h1) ?_
    have h3 : j.toInt % md = i.toInt % md := Int.emod_eq_emod_iff_emod_sub_eq_zero.mpr hm
    have h4 : ((i.toNatClampNeg % md : Nat) : Int) = ((j.toNatClampNeg % md : Nat) : Int) := by rw [Int.natCast_emod, Int.natCast_emod, e1, e2]; exact h3.symm
    have h5 := Int.ofNat.inj h4
    rw [h5, ← c]; exact hr
  · rw [if_neg c]; exact h q hq hr
theorem z_l2i {x : Int64} (h1 : -2147483648 ≤ x.toInt) (h2 : x.toInt ≤ 2147483647) : x.toInt32.toInt = x.toInt := by
  rw [Int64.toInt_toInt32]; exact z_bm h1 h2
def isByteOf (f : Nat → Int32) (t k lo hi : Int32) : Int32 := if k.toInt < t.toInt ∧ lo.toInt ≤ (f k.toNatClampNeg).toInt ∧ (f k.toNatClampNeg).toInt ≤ hi.toInt then 1 else 0
-- a copied row
def CP (n : Nat) (a b i : Int) (f g : Nat → Int32) : Prop := ∀ j : Nat, g j = if (n : Int) * b ≤ j ∧ (j : Int) < n * b + i then f ((j : Int) - n * b + n * a).toNat else f j
theorem CP.zero (n : Nat) (a b : Int) (f : Nat → Int32) {i : Int} (h : i = 0) : CP n a b i f f := by
  intro j
  rw [if_neg (by omega)]
theorem CP.step {a b i : Int} {f g : Nat → Int32} (h : CP 120 a b i f g) {x y : Int32} (hi : 0 ≤ i) (hi2 : i < 120) (ha : 0 ≤ a) (hb : 0 ≤ b) (hne : ¬ a = b) (hx : x.toInt = 120 * a + i) (hy : y.toInt = 120 * b + i) {i' : Int} (hi' : i' = i + 1) : CP 120 a b i' f (upd g y.toNatClampNeg (g x.toNatClampNeg)) := by
  subst hi'
  have e1 := z_clv (x := x) (by omega)
  have e2 := z_clv (x := y) (by omega)
  intro j
  show (if j = y.toNatClampNeg then g x.toNatClampNeg else g j) = _
  by_cases c : j = y.toNatClampNeg
  · rw [if_pos c, h x.toNatClampNeg, if_neg (by omega), if_pos (by omega)]
    congr 1
    omega
  · rw [if_neg c, h j]
    by_cases d : ((120 : Nat) : Int) * b ≤ j ∧ (j : Int) < ((120 : Nat) : Int) * b + i
    · rw [if_pos d, if_pos (by omega)]
    · rw [if_neg d, if_neg (by omega)]
theorem CP.step6 {a b i : Int} {f g : Nat → Int32} (h : CP 6 a b i f g) {x y : Int32} (hi : 0 ≤ i) (hi2 : i < 6) (ha : 0 ≤ a) (hb : 0 ≤ b) (hne : ¬ a = b) (hx : x.toInt = 6 * a + i) (hy : y.toInt = 6 * b + i) {i' : Int} (hi' : i' = i + 1) : CP 6 a b i' f (upd g y.toNatClampNeg (g x.toNatClampNeg)) := by
  subst hi'
  have e1 := z_clv (x := x) (by omega)
  have e2 := z_clv (x := y) (by omega)
  intro j
  show (if j = y.toNatClampNeg then g x.toNatClampNeg else g j) = _
  by_cases c : j = y.toNatClampNeg
  · rw [if_pos c, h x.toNatClampNeg, if_neg (by omega), if_pos (by omega)]
    congr 1
    omega
  · rw [if_neg c, h j]
    by_cases d : ((6 : Nat) : Int) * b ≤ j ∧ (j : Int) < ((6 : Nat) : Int) * b + i
    · rw [if_pos d, if_pos (by omega)]
    · rw [if_neg d, if_neg (by omega)]
theorem CP.step50 {a b i : Int} {f g : Nat → Int32} (h : CP 50 a b i f g) {x y : Int32} (hi : 0 ≤ i) (hi2 : i < 50) (ha : 0 ≤ a) (hb : 0 ≤ b) (hne : ¬ a = b) (hx : x.toInt = 50 * a + i) (hy : y.toInt = 50 * b + i) {i' : Int} (hi' : i' = i + 1) : CP 50 a b i' f (upd g y.toNatClampNeg (g x.toNatClampNeg)) := by
  subst hi'
  have e1 := z_clv (x := x) (by omega)
  have e2 := z_clv (x := y) (by omega)
  intro j
  show (if j = y.toNatClampNeg then g x.toNatClampNeg else g j) = _
  by_cases c : j = y.toNatClampNeg
  · rw [if_pos c, h x.toNatClampNeg, if_neg (by omega), if_pos (by omega)]
    congr 1
    omega
  · rw [if_neg c, h j]
    by_cases d : ((50 : Nat) : Int) * b ≤ j ∧ (j : Int) < ((50 : Nat) : Int) * b + i
    · rw [if_pos d, if_pos (by omega)]
    · rw [if_neg d, if_neg (by omega)]
theorem CP.done {n : Nat} {a b i i' : Int} {f g : Nat → Int32} (h : CP n a b i f g) (e : i = i') : CP n a b i' f g := e ▸ h
theorem AK.cp {f g : Nat → Int32} (h : AK f) {a b k : Int} (hc : CP 120 a b k f g) (hk : k = 120) (ha : 0 ≤ a) (ha4 : a ≤ 4) (hb : 0 ≤ b) (hb4 : b ≤ 4) : AK g := by
  subst hk
  intro j hj h1
  rw [hc] at h1
  rw [hc]
  by_cases d : ((120 : Nat) : Int) * b ≤ ((3 * j : Nat) : Int) ∧ ((3 * j : Nat) : Int) < ((120 : Nat) : Int) * b + 120
  · rw [if_pos d] at h1
    rw [if_pos (by omega)]
    have q1 : (((3 * j : Nat) : Int) - ((120 : Nat) : Int) * b + ((120 : Nat) : Int) * a).toNat = 3 * (((j : Int) - 40 * b + 40 * a).toNat) := by omega
    have q2 : (((3 * j + 1 : Nat) : Int) - ((120 : Nat) : Int) * b + ((120 : Nat) : Int) * a).toNat = 3 * (((j : Int) - 40 * b + 40 * a).toNat) + 1 := by omega
    rw [q1] at h1
    rw [q2]
    exact h _ (by omega) h1
  · rw [if_neg d] at h1
    rw [if_neg (by omega)]
    exact h j hj h1
-- a line is read: further, or bad, or the end
def mz (bad at' tok tp : Int) : Nat := if bad = 0 then (1 + 2 * (tp - at') + (if tok = 0 then 0 else 1)).toNat else 0
theorem mz_lt {bad a tok tp bad' a' tok' : Int} (h0 : bad = 0) (h1 : ¬ tok = 0) (h2 : a' ≤ tp) (h3 : 0 ≤ a) (h4 : a ≤ tp) (h : ¬ bad' = 0 ∨ (a ≤ a' ∧ tok' = 0) ∨ a < a') : mz bad' a' tok' tp < mz bad a tok tp := by
  unfold mz
  rw [if_pos h0, if_neg h1]
  by_cases c : bad' = 0
  · rw [if_pos c]
    by_cases d : tok' = 0
    · rw [if_pos d]; omega
    · rw [if_neg d]; omega
  · rw [if_neg c]; omega
def nextOf (f : Nat → Int32) (l s : Int32) : Int32 := if f (5 * l).toNatClampNeg = s then f (5 * l + 1).toNatClampNeg else f (5 * l).toNatClampNeg
-- rows that tell sights: the streets
def WNi (f : Nat → Int64) (p i : Int) : Prop := ∀ j : Nat, 2 * (j : Int) < i → 0 ≤ (f (60 * p + 2 * j).toNat).toInt ∧ (f (60 * p + 2 * j).toNat).toInt ≤ 7
theorem WNi.zero (f : Nat → Int64) (p : Int) : WNi f p 0 := fun j h => by omega
theorem WNi.mono {f : Nat → Int64} {p i i' : Int} (h : WNi f p i) (hi : i' ≤ i) : WNi f p i' := fun j hj => h j (by omega)
theorem WNi.step {f : Nat → Int64} {p i : Int} (h : WNi f p i) {ix : Int32} (hp : 0 ≤ p) (hi : 0 ≤ i) (h2 : i % 2 = 0) (hx : ix.toInt = 60 * p + i) (h3 : 0 ≤ (f ix.toNatClampNeg).toInt) (h4 : (f ix.toNatClampNeg).toInt ≤ 7) : WNi f p (i + 2) := by
  intro j hj
  by_cases c : 2 * (j : Int) < i
  · exact h j c
  · have e := z_clv (x := ix) (by omega)
    have q : (60 * p + 2 * (j : Int)).toNat = ix.toNatClampNeg := by omega
    rw [q]
    exact ⟨h3, h4⟩
theorem WNi.use {f : Nat → Int64} {p m : Int} (h : WNi f p m) {ix : Int32} {i : Int} (hp : 0 ≤ p) (hi : 0 ≤ i) (h2 : i % 2 = 0) (hx : ix.toInt = 60 * p + i) (hm : i < m) : 0 ≤ (f ix.toNatClampNeg).toInt ∧ (f ix.toNatClampNeg).toInt ≤ 7 := by
  have e := z_clv (x := ix) (by omega)
  have q := h (i / 2).toNat (by omega)
  have q2 : (60 * p + 2 * (((i / 2).toNat : Nat) : Int)).toNat = ix.toNatClampNeg := by omega
  rw [q2] at q
  exact q
-- minutes: never (100000), or not later than 59 and 70 for each street that has it
def fin1 (x : Int32) : Int := if x.toInt = 100000 then 0 else 1
def cnt8 (f : Nat → Int32) : Int := fin1 (f 0) + fin1 (f 1) + fin1 (f 2) + fin1 (f 3) + fin1 (f 4) + fin1 (f 5) + fin1 (f 6) + fin1 (f 7)
theorem fin1_b (x : Int32) : 0 ≤ fin1 x ∧ fin1 x ≤ 1 := by
  unfold fin1
  by_cases c : x.toInt = 100000
  · rw [if_pos c]; omega
  · rw [if_neg c]; omega
theorem cnt8_b (f : Nat → Int32) : 0 ≤ cnt8 f ∧ cnt8 f ≤ 8 := by
  have h0 := fin1_b (f 0); have h1 := fin1_b (f 1); have h2 := fin1_b (f 2); have h3 := fin1_b (f 3)
  have h4 := fin1_b (f 4); have h5 := fin1_b (f 5); have h6 := fin1_b (f 6); have h7 := fin1_b (f 7)
  unfold cnt8
  omega
theorem upd_at {f : Nat → Int32} {i j : Nat} {x : Int32} : upd f i x j = if j = i then x else f j := rfl
theorem cnt8_upd (f : Nat → Int32) {b : Nat} (hb : b < 8) (x : Int32) : cnt8 (upd f b x) = cnt8 f - fin1 (f b) + fin1 x := by
  have h : b = 0 ∨ b = 1 ∨ b = 2 ∨ b = 3 ∨ b = 4 ∨ b = 5 ∨ b = 6 ∨ b = 7 := by omega
  rcases h with rfl | rfl | rfl | rfl | rfl | rfl | rfl | rfl <;> (unfold cnt8; simp only [upd_at]; simp <;> try omega)
def MN (f : Nat → Int32) : Prop := ∀ j, j < 8 → (f j).toInt = 100000 ∨ (f j).toInt ≤ 59 + 70 * cnt8 f
theorem MN.ld {f : Nat → Int32} (h : MN f) {i : Int32} (h0 : 0 ≤ i.toInt) (h1 : i.toInt < 8) : (f i.toNatClampNeg).toInt = 100000 ∨ (f i.toNatClampNeg).toInt ≤ 619 := by
  have q := cnt8_b f
  rcases h _ (z_cl h0 h1) with e | e
  · exact Or.inl e
  · exact Or.inr (by omega)
theorem MN.put {f : Nat → Int32} (h : MN f) {b : Nat} (hb : b < 8) {x : Int32} (hx : ¬ x.toInt = 100000) (h1 : x.toInt ≤ 129 ∨ ((f b).toInt = 100000 ∧ x.toInt ≤ 59 + 70 * cnt8 f + 70) ∨ (x.toInt ≤ 59 + 70 * cnt8 f)) : MN (upd f b x) := by
  have hc := cnt8_upd f hb x
  have hx1 : fin1 x = 1 := by unfold fin1; rw [if_neg hx]
  have hfb := fin1_b (f b)
  have hcb := cnt8_b f
  have hcz := cnt8_b (upd f b x)
  have hz : (f b).toInt = 100000 → fin1 (f b) = 0 := fun q => by unfold fin1; rw [if_pos q]
  have hge : fin1 (f b) ≤ cnt8 f := by
    have h : b = 0 ∨ b = 1 ∨ b = 2 ∨ b = 3 ∨ b = 4 ∨ b = 5 ∨ b = 6 ∨ b = 7 := by omega
    have h0 := fin1_b (f 0); have h1 := fin1_b (f 1); have h2 := fin1_b (f 2); have h3 := fin1_b (f 3)
    have h4 := fin1_b (f 4); have h5 := fin1_b (f 5); have h6 := fin1_b (f 6); have h7 := fin1_b (f 7)
    rcases h with rfl | rfl | rfl | rfl | rfl | rfl | rfl | rfl <;> (unfold cnt8; omega)
  intro j hj
  rw [upd_at]
  by_cases c : j = b
  · rw [if_pos c]
    right
    rcases h1 with q | ⟨q1, q2⟩ | q
    · omega
    · have := hz q1; omega
    · omega
  · rw [if_neg c]
    rcases h j hj with e | e
    · exact Or.inl e
    · right; omega
theorem MN.enter {f : Nat → Int32} (h : MN f) {b x : Int32} (h0 : 0 ≤ b.toInt) (h1 : b.toInt < 8) (hx : x.toInt ≤ 129) : MN (upd f b.toNatClampNeg x) := h.put (z_cl h0 h1) (by omega) (Or.inl hx)
theorem MN.low {f : Nat → Int32} (h : MN f) {a b x xa xb : Int32} (ha0 : 0 ≤ a.toInt) (ha : a.toInt < 8) (hb0 : 0 ≤ b.toInt) (hb : b.toInt < 8) (ea : xa = f a.toNatClampNeg) (eb : xb = f b.toNatClampNeg) (h1 : x.toInt ≤ xa.toInt + 70) (h2 : xa.toInt ≤ x.toInt) (h3 : x.toInt < xb.toInt) (h4 : xb.toInt ≤ 100000) : MN (upd f b.toNatClampNeg x) := by
  have q1 := h _ (z_cl ha0 ha)
  have q2 := h _ (z_cl hb0 hb)
  rw [← ea] at q1
  rw [← eb] at q2
  refine h.put (z_cl hb0 hb) (by omega) ?_
  rw [← eb]
  omega
def FA (i : Int) (f : Nat → Int32) : Prop := ∀ j : Nat, (j : Int) < i → (f j).toInt = 100000
theorem FA.zero (f : Nat → Int32) : FA 0 f := fun j h => by omega
theorem FA.step {i : Int} {f : Nat → Int32} (h : FA i f) {b x : Int32} {i' : Int} (h0 : 0 ≤ b.toInt) (hb : b.toInt = i) (hi : i' = i + 1) (hx : x.toInt = 100000 := by decide) : FA i' (upd f b.toNatClampNeg x) := by
  intro j hj
  have e := z_clv h0
  rw [upd_at]
  by_cases c : j = b.toNatClampNeg
  · rw [if_pos c]; exact hx
  · rw [if_neg c]; exact h j (by omega)
theorem MN.never {i : Int} {f : Nat → Int32} (h : FA i f) (hi : 8 ≤ i) : MN f := fun j hj => Or.inl (h j (by omega))
-- the weight of all
def WA (l w : Int) : Prop := 0 ≤ l ∧ 1 ≤ w ∧ w ≤ 10 ^ l.toNat
theorem WA.zero : WA 0 1 := by unfold WA; decide
theorem WA.le10 {n : Nat} (h : n ≤ 10) : (10 : Int) ^ n ≤ 10000000000 := by
  have q : n = 0 ∨ n = 1 ∨ n = 2 ∨ n = 3 ∨ n = 4 ∨ n = 5 ∨ n = 6 ∨ n = 7 ∨ n = 8 ∨ n = 9 ∨ n = 10 := by omega
  rcases q with rfl | rfl | rfl | rfl | rfl | rfl | rfl | rfl | rfl | rfl | rfl <;> decide
theorem WA.keep {l w l' : Int} (h : WA l w) (hl : l' = l + 1) : WA l' w := by
  obtain ⟨h0, h1, h2⟩ := h
  subst hl
  refine ⟨by omega, h1, Int.le_trans h2 ?_⟩
  rw [show (l + 1).toNat = l.toNat + 1 from by omega, Int.pow_succ]
  have : (0 : Int) < 10 ^ l.toNat := Int.pow_pos (by decide)
  omega
theorem WA.mul {l l' : Int} {w w' : Int64} (h : WA l w.toInt) (e : w' = w * 10) (hl : l' = l + 1) (h9 : l ≤ 9) : WA l' w'.toInt := by
  obtain ⟨h0, h1, h2⟩ := h
  subst hl
  have q := WA.le10 (n := l.toNat) (by omega)
  have e2 : w'.toInt = w.toInt * 10 := by
    rw [e, Int64.toInt_mul]
    exact z_bl (by show _ ≤ w.toInt * 10; omega) (by show w.toInt * 10 ≤ _; omega)
  rw [e2]
  refine ⟨by omega, by omega, ?_⟩
  rw [show (l + 1).toNat = l.toNat + 1 from by omega, Int.pow_succ]
  omega
theorem WA.le {l w : Int} (h : WA l w) (hl : l ≤ 10) : 1 ≤ w ∧ w ≤ 10000000000 := ⟨h.2.1, Int.le_trans h.2.2 (WA.le10 (by have := h.1; omega))⟩
-- the rest of a division of longs
theorem zl_tm {x y : Int64} (hy : ¬ y.toInt = 0) : (x - x / y * y).toInt = x.toInt.tmod y.toInt := by
  have hb := Int64.toInt_lt y
  have hc := Int64.le_toInt y
  have e1 : (x / y * y).toInt = (x.toInt.tdiv y.toInt * y.toInt).bmod (2 ^ 64) := by rw [Int64.toInt_mul, Int64.toInt_div, Int.bmod_mul_bmod]
  rw [Int64.toInt_sub, e1, Int.sub_bmod_bmod]
  have e2 : x.toInt - x.toInt.tdiv y.toInt * y.toInt = x.toInt.tmod y.toInt := by rw [Int.tmod_def, Int.mul_comm]
  rw [e2]
  have h1 : (x.toInt.tmod y.toInt).natAbs < y.toInt.natAbs := by rw [Int.natAbs_tmod]; exact Nat.mod_lt _ (by omega)
  exact z_bl (by omega) (by omega)
theorem zl_rem {x y q : Int64} (e : q = x - x / y * y) (hy : ¬ y.toInt = 0) : q.toInt.natAbs < y.toInt.natAbs ∧ (y.toInt.natAbs ≤ x.toInt.natAbs → q.toInt.natAbs + y.toInt.natAbs ≤ x.toInt.natAbs) := by
  rw [e, zl_tm hy, Int.natAbs_tmod]
  refine ⟨Nat.mod_lt _ (by omega), fun h => ?_⟩
  rw [Nat.mod_eq_sub_mod h]
  have := Nat.mod_le (x.toInt.natAbs - y.toInt.natAbs) y.toInt.natAbs
  omega
theorem z_nneg {x : Int32} (h : 0 ≤ x.toInt) : ¬ x < 0 := fun q => by
  have := Int32.lt_iff_toInt_lt.mp q
  have e : (0 : Int32).toInt = 0 := rfl
  omega
theorem z_sumle {a n : Int32} {N : Nat} (h1 : 0 ≤ a.toInt) (h2 : 0 ≤ n.toInt) (h3 : a.toInt + n.toInt ≤ N) : a.toNatClampNeg + n.toNatClampNeg ≤ N := by
  have e1 := z_clv h1
  have e2 := z_clv h2
  omega
theorem PR.cpy {n0 n1 sp dp n : Nat} {lo hi : Int} {f g : Nat → Int32} (h : PR n0 1 0 lo hi f) (hg : PR n1 1 0 lo hi g) (hb : sp + n ≤ n0) : PR n1 1 0 lo hi (va_cpy f g sp dp n) := by
  intro j hj hr
  show lo ≤ (if dp ≤ j ∧ j < dp + n then f (sp + (j - dp)) else g j).toInt ∧ (if dp ≤ j ∧ j < dp + n then f (sp + (j - dp)) else g j).toInt ≤ hi
  by_cases c : dp ≤ j ∧ j < dp + n
  · rw [if_pos c]; exact h _ (by omega) (by omega)
  · rw [if_neg c]; exact hg j hj hr
-- a filled row
def FV (i : Int) (x : Int32) (f : Nat → Int32) : Prop := ∀ j : Nat, (j : Int) < i → f j = x
theorem FV.zero (x : Int32) (f : Nat → Int32) : FV 0 x f := fun j h => by omega
theorem FV.step {i : Int} {x : Int32} {f : Nat → Int32} (h : FV i x f) {b : Int32} {i' : Int} (h0 : 0 ≤ b.toInt) (hb : b.toInt = i) (hi : i' = i + 1) : FV i' x (upd f b.toNatClampNeg x) := by
  intro j hj
  have e := z_clv h0
  rw [upd_at]
  by_cases c : j = b.toNatClampNeg
  · rw [if_pos c]
  · rw [if_neg c]; exact h j (by omega)
theorem FV.pr {i : Int} {x : Int32} {f : Nat → Int32} (h : FV i x f) {n : Nat} {lo up : Int} (hi : (n : Int) ≤ i) (h1 : lo ≤ x.toInt) (h2 : x.toInt ≤ up) : PR n 1 0 lo up f := fun j hj _ => by rw [h j (by omega)]; exact ⟨h1, h2⟩
-- lanes that a town has take a minute at least
def TK (f g : Nat → Int32) : Prop := ∀ sl l : Nat, sl < 5 → l < 10 → (l : Int) < (f (6 * sl + 1)).toInt → 1 ≤ (g (50 * sl + 5 * l + 2)).toInt
theorem TK.other {f g : Nat → Int32} (h : TK f g) {i : Nat} {x : Int32} (hi : ¬ i % 6 = 1) : TK (upd f i x) g := by
  intro sl l h1 h2 h3
  rw [upd_at, if_neg (by omega)] at h3
  exact h sl l h1 h2 h3
theorem TK.zero {f g : Nat → Int32} (h : TK f g) {i : Nat} : TK (upd f i 0) g := by
  intro sl l h1 h2 h3
  rw [upd_at] at h3
  by_cases c : 6 * sl + 1 = i
  · rw [if_pos c] at h3
    have : (0 : Int32).toInt = 0 := rfl
    omega
  · rw [if_neg c] at h3
    exact h sl l h1 h2 h3
theorem TK.row {f g : Nat → Int32} (h0 : TK f g) {i x : Int32} {h : Int} (h1 : 0 ≤ h) (h2 : h = (f 25).toInt) (h3 : 200 + 5 * h ≤ i.toInt) (h4 : i.toInt ≤ 204 + 5 * h) : TK f (upd g i.toNatClampNeg x) := by
  intro sl l q1 q2 q3
  have e := z_clv (x := i) (by omega)
  by_cases c : sl = 4
  · subst c
    have q4 : (l : Int) < (f 25).toInt := q3
    rw [upd_at, if_neg (by omega)]
    exact h0 4 l q1 q2 q3
  · rw [upd_at, if_neg (by omega)]
    exact h0 sl l q1 q2 q3
theorem TK.add {f g : Nat → Int32} (h0 : TK f g) {x : Int32} {h : Int} (h1 : 0 ≤ h) (h2 : h = (f 25).toInt) (h3 : 1 ≤ (g (200 + 5 * h + 2).toNat).toInt) (h4 : x.toInt = h + 1) : TK (upd f 25 x) g := by
  intro sl l q1 q2 q3
  by_cases c : sl = 4
  · subst c
    have q4 : (l : Int) < (upd f 25 x 25).toInt := q3
    rw [upd_at, if_pos rfl] at q4
    by_cases d : (l : Int) = h
    · rw [show 50 * 4 + 5 * l + 2 = (200 + 5 * h + 2).toNat from by omega]
      exact h3
    · exact h0 4 l q1 q2 (by show (l : Int) < (f 25).toInt; omega)
  · rw [upd_at, if_neg (by omega)] at q3
    exact h0 sl l q1 q2 q3
theorem TK.cp {f g f' g' : Nat → Int32} (h : TK f g) {a b : Int} (h1 : CP 6 a b 6 f f') (h2 : CP 50 a b 50 g g') (ha : 0 ≤ a) (ha4 : a ≤ 4) (hb : 0 ≤ b) (hb4 : b ≤ 4) : TK f' g' := by
  intro sl l q1 q2 q3
  rw [h1] at q3
  rw [h2]
  by_cases c : (sl : Int) = b
  · rw [if_pos (by omega)] at q3
    rw [if_pos (by omega)]
    have e1 : (((6 * sl + 1 : Nat) : Int) - ((6 : Nat) : Int) * b + ((6 : Nat) : Int) * a).toNat = 6 * a.toNat + 1 := by omega
    have e2 : (((50 * sl + 5 * l + 2 : Nat) : Int) - ((50 : Nat) : Int) * b + ((50 : Nat) : Int) * a).toNat = 50 * a.toNat + 5 * l + 2 := by omega
    rw [e1] at q3
    rw [e2]
    exact h a.toNat l (by omega) q2 q3
  · rw [if_neg (by omega)] at q3
    rw [if_neg (by omega)]
    exact h sl l q1 q2 q3
theorem TK.use {f g : Nat → Int32} (h : TK f g) {l : Int32} (h0 : 0 ≤ l.toInt) (h1 : l.toInt < (f 1).toInt) (h2 : l.toInt ≤ 9) : 1 ≤ (g (5 * l + 2).toNatClampNeg).toInt := by
  have e1 : (5 * l).toInt = 5 * l.toInt := z_mul (a := 5) rfl rfl (by omega) (by omega)
  have e2 : (5 * l + 2).toInt = 5 * l.toInt + 2 := z_add (b := 2) e1 rfl (by omega) (by omega)
  have e := z_clv (x := 5 * l + 2) (by omega)
  have q := h 0 l.toInt.toNat (by omega) (by omega) (by show _ < (f 1).toInt; omega)
  rw [show 50 * 0 + 5 * l.toInt.toNat + 2 = (5 * l + 2).toNatClampNeg from by omega] at q
  exact q
theorem AK.put {f : Nat → Int32} (h : AK f) {i0 i1 i2 x y z : Int32} (h0 : 0 ≤ i0.toInt) (hm : i0.toInt % 3 = 0) (h1 : i1.toInt = i0.toInt + 1) (h2 : i2.toInt = i0.toInt + 2) (h3 : i0.toInt ≤ 600) (hk : x = 1 → y.toInt ≤ 3) : AK (upd (upd (upd f i0.toNatClampNeg x) i1.toNatClampNeg y) i2.toNatClampNeg z) := by
  have e0 := z_clv (x := i0) h0
  have e1 := z_clv (x := i1) (by omega)
  have e2 := z_clv (x := i2) (by omega)
  intro j hj q
  by_cases c : 3 * j = i0.toNatClampNeg
  · rw [upd_at, if_neg (by omega), upd_at, if_neg (by omega), upd_at, if_pos c] at q
    rw [upd_at, if_neg (by omega), upd_at, if_pos (by omega)]
    exact hk q
  · rw [upd_at, if_neg (by omega), upd_at, if_neg (by omega), upd_at, if_neg c] at q
    rw [upd_at, if_neg (by omega), upd_at, if_neg (by omega), upd_at, if_neg (by omega)]
    exact h j hj q
