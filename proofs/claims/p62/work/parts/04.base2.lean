theorem sub_fm {α : Type _} {f : Nat → Option α} : ∀ {is : List Nat} {w : List α}, is.map f = w.map some → is.filterMap f = w
  | [], [], _ => rfl
  | [], _ :: _, h => by simp at h
  | _ :: _, [], h => by simp at h
  | i :: is, a :: w, h => by
    rw [List.map_cons, List.map_cons] at h
    injection h with h1 h2
    first
    | (rw [List.filterMap_cons_some h1, sub_fm h2]; done)
    | simp [List.filterMap_cons, h1, sub_fm h2]
theorem sub2 {D : va_G} {cl : List vw_C} {A : Nat → Prop} {ws ws' : va_W} {H : Heap} (hP : va_P D cl ws H) (hD : va_D A ws) (is : List Nat) (hn : va_nd is = true) (hs : is.map (fun i => ws[i]?) = ws'.map some) : va_P D cl ws' H ∧ va_D A ws' := ⟨hP.sub is (sub_fm hs), hD.sub is hn hs⟩
theorem sub3 {D : va_G} {cl : List vw_C} {A : Nat → Prop} {ws ws' : va_W} {H0 H : Heap} {locs : List Loc} (hP : va_P D cl ws H) (hD : va_D A ws) (hS : va_S A H0 H locs) (hA : ∀ q, H0.size ≤ q → A q) (is : List Nat) (hn : va_nd is = true) (hs : is.map (fun i => ws[i]?) = ws'.map some) : va_P D cl ws' H ∧ va_D A ws' ∧ ∀ q, va_A ws' H.size q → A q := ⟨hP.sub is (sub_fm hs), hD.sub is hn hs, va_free hD hS hA is hs⟩
-- contents of arrays, by residues of the place
def PR (n md r : Nat) (lo hi : Int) (f : Nat → Int32) : Prop := ∀ j, j < n → j % md = r → lo ≤ (f j).toInt ∧ (f j).toInt ≤ hi
theorem PR.ld {n md r : Nat} {lo hi : Int} {f : Nat → Int32} (h : PR n md r lo hi f) {i : Int32} (h0 : 0 ≤ i.toInt) (h1 : i.toInt < n) (h2 : i.toInt % md = r) : lo ≤ (f i.toNatClampNeg).toInt ∧ (f i.toNatClampNeg).toInt ≤ hi := by
  have e := z_clv h0
  refine h _ (z_cl h0 h1) ?_
  have h3 : ((i.toNatClampNeg % md : Nat) : Int) = (r : Int) := by rw [Int.natCast_emod, e]; exact h2
  exact Int.ofNat.inj h3
theorem PR.put {n md r : Nat} {lo hi : Int} {f : Nat → Int32} (h : PR n md r lo hi f) {i : Nat} {x : Int32} (hx : lo ≤ x.toInt ∧ x.toInt ≤ hi) : PR n md r lo hi (upd f i x) := by
  intro j hj hr
  show lo ≤ (if j = i then x else f j).toInt ∧ (if j = i then x else f j).toInt ≤ hi
  by_cases q : j = i
  · rw [if_pos q]; exact hx
  · rw [if_neg q]; exact h j hj hr
theorem PR.other {n md r : Nat} {lo hi : Int} {f : Nat → Int32} (h : PR n md r lo hi f) {i : Nat} {x : Int32} (hm : ¬ i % md = r) : PR n md r lo hi (upd f i x) := by
  intro j hj hr
  show lo ≤ (if j = i then x else f j).toInt ∧ (if j = i then x else f j).toInt ≤ _
  by_cases q : j = i
  · exact absurd (by rw [← q]; exact hr) hm
  · rw [if_neg q]; exact h j hj hr
theorem PR.put2 {n md r : Nat} {lo hi : Int} {f : Nat → Int32} (h : PR n md r lo hi f) {i : Nat} {x y : Int32} (hx : lo ≤ x.toInt ∧ x.toInt ≤ hi) : PR n md r lo hi (upd (upd f i y) i x) := by
  intro j hj hr
  show lo ≤ (if j = i then x else (if j = i then y else f j)).toInt ∧ (if j = i then x else (if j = i then y else f j)).toInt ≤ hi
  by_cases q : j = i
  · rw [if_pos q]; exact hx
  · rw [if_neg q, if_neg q]; exact h j hj hr
theorem PR.wk {n md r : Nat} {lo hi lo' hi' : Int} {f : Nat → Int32} (h : PR n md r lo hi f) (h1 : lo' ≤ lo) (h2 : hi ≤ hi') : PR n md r lo' hi' f := fun j hj hr => ⟨Int.le_trans h1 (h j hj hr).1, Int.le_trans (h j hj hr).2 h2⟩
theorem PR.const {n md r : Nat} {lo hi : Int} {x : Int32} (h1 : lo ≤ x.toInt) (h2 : x.toInt ≤ hi) : PR n md r lo hi (fun _ => x) := fun _ _ _ => ⟨h1, h2⟩
theorem z_clm {i : Int32} {md r : Nat} (h0 : 0 ≤ i.toInt) (h : ¬ i.toInt % md = r) : ¬ i.toNatClampNeg % md = r := by
  intro q
  apply h
  rw [← z_clv h0, ← Int.natCast_emod, q]
-- bits
theorem z_tn {x : Int32} (h : 0 ≤ x.toInt) : x.toInt = (x.toBitVec.toNat : Int) := by
  have e : x.toInt = x.toBitVec.toInt := rfl
  rw [e] at h ⊢
  rw [BitVec.toInt_eq_toNat_cond] at h ⊢
  split
  · rfl
  · rename_i q
    rw [if_neg q] at h
    have := x.toBitVec.isLt
    omega
theorem z_tl {x : Int32} (h : 0 ≤ x.toInt) : x.toBitVec.toNat < 2 ^ 31 := by
  have e := z_tn h
  have := Int32.toInt_lt x
  omega
theorem z_ofn {x : Int32} (h : x.toBitVec.toNat < 2 ^ 31) : x.toInt = (x.toBitVec.toNat : Int) := by
  have e : x.toInt = x.toBitVec.toInt := rfl
  rw [e, BitVec.toInt_eq_toNat_cond, if_pos (by omega)]
theorem z_andL {x y : Int32} (h : 0 ≤ x.toInt) : 0 ≤ (x &&& y).toInt ∧ (x &&& y).toInt ≤ x.toInt := by
  have h1 : (x &&& y).toBitVec.toNat = x.toBitVec.toNat &&& y.toBitVec.toNat := by rw [Int32.toBitVec_and, BitVec.toNat_and]
  have h2 : x.toBitVec.toNat &&& y.toBitVec.toNat ≤ x.toBitVec.toNat := Nat.and_le_left
  have h3 := z_tl h
  rw [z_ofn (x := x &&& y) (by omega), z_tn h, h1]
  omega
theorem z_andR {x y : Int32} (h : 0 ≤ y.toInt) : 0 ≤ (x &&& y).toInt ∧ (x &&& y).toInt ≤ y.toInt := by
  have h1 : (x &&& y).toBitVec.toNat = x.toBitVec.toNat &&& y.toBitVec.toNat := by rw [Int32.toBitVec_and, BitVec.toNat_and]
  have h2 : x.toBitVec.toNat &&& y.toBitVec.toNat ≤ y.toBitVec.toNat := Nat.and_le_right
  have h3 := z_tl h
  rw [z_ofn (x := x &&& y) (by omega), z_tn h, h1]
  omega
theorem z_or {x y : Int32} (k n : Nat) (hn : 2 ^ k = n) (hk : k ≤ 30) (hx : 0 ≤ x.toInt ∧ x.toInt < n) (hy : 0 ≤ y.toInt ∧ y.toInt < n) : 0 ≤ (x ||| y).toInt ∧ (x ||| y).toInt < n := by
  have h1 : (x ||| y).toBitVec.toNat = x.toBitVec.toNat ||| y.toBitVec.toNat := by rw [Int32.toBitVec_or, BitVec.toNat_or]
  have hx2 : x.toBitVec.toNat < 2 ^ k := by rw [hn]; have := z_tn hx.1; omega
  have hy2 : y.toBitVec.toNat < 2 ^ k := by rw [hn]; have := z_tn hy.1; omega
  have h2 := Nat.or_lt_two_pow hx2 hy2
  have h3 : 2 ^ k ≤ 2 ^ 30 := Nat.pow_le_pow_right (by decide) hk
  rw [z_ofn (x := x ||| y) (by omega), h1]
  omega
theorem z_xor {x y : Int32} (k n : Nat) (hn : 2 ^ k = n) (hk : k ≤ 30) (hx : 0 ≤ x.toInt ∧ x.toInt < n) (hy : 0 ≤ y.toInt ∧ y.toInt < n) : 0 ≤ (x ^^^ y).toInt ∧ (x ^^^ y).toInt < n := by
  have h1 : (x ^^^ y).toBitVec.toNat = x.toBitVec.toNat ^^^ y.toBitVec.toNat := by rw [Int32.toBitVec_xor, BitVec.toNat_xor]
  have hx2 : x.toBitVec.toNat < 2 ^ k := by rw [hn]; have := z_tn hx.1; omega
  have hy2 : y.toBitVec.toNat < 2 ^ k := by rw [hn]; have := z_tn hy.1; omega
  have h2 := Nat.xor_lt_two_pow hx2 hy2
  have h3 : 2 ^ k ≤ 2 ^ 30 := Nat.pow_le_pow_right (by decide) hk
  rw [z_ofn (x := x ^^^ y) (by omega), h1]
  omega
theorem z_shtab : ∀ j : Fin 31, ((1 : Int32) <<< (nI j.val &&& 31)).toInt = ((2 ^ j.val : Nat) : Int) := by decide
theorem z_shl1 {y : Int32} (k n : Nat) (hn : 2 ^ k = n) (hk : k ≤ 30) (h0 : 0 ≤ y.toInt) (h1 : y.toInt ≤ k) : 1 ≤ ((1 : Int32) <<< (y &&& 31)).toInt ∧ ((1 : Int32) <<< (y &&& 31)).toInt ≤ n := by
  obtain ⟨j, hj, rfl⟩ : ∃ j : Nat, j ≤ k ∧ y = nI j := by
    refine ⟨y.toInt.toNat, by omega, Int32.toInt_inj.mp ?_⟩
    rw [nI_toInt (by omega)]
    omega
  have e := z_shtab ⟨j, by omega⟩
  simp only at e
  rw [e]
  have h2 : 2 ^ j ≤ 2 ^ k := Nat.pow_le_pow_right (by decide) hj
  have h3 : 1 ≤ 2 ^ j := Nat.one_le_two_pow
  omega
theorem z_div {x y : Int32} {a b : Int} (ha : x.toInt = a) (hb : y.toInt = b) (h : 0 ≤ a) (h1 : 0 < b) (_ : b < 2147483648) : (x / y).toInt = a / b := by
  have hl := Int32.toInt_lt x
  have h3 : a / b ≤ a := Int.ediv_le_self _ h
  have h4 : 0 ≤ a / b := Int.ediv_nonneg h (Int.le_of_lt h1)
  rw [Int32.toInt_div, ha, hb, Int.tdiv_eq_ediv_of_nonneg h]
  exact z_bm (by omega) (by omega)
theorem z_rem {x y : Int32} {a b : Int} (ha : x.toInt = a) (hb : y.toInt = b) (h : 0 ≤ a) (h1 : 0 < b) (h2 : b < 2147483648) : (x - x / y * y).toInt = a % b := by
  have hl := Int32.toInt_lt x
  have h3 : a / b ≤ a := Int.ediv_le_self _ h
  have h4 : 0 ≤ a / b := Int.ediv_nonneg h (Int.le_of_lt h1)
  have h5 := Int.emod_nonneg a (Int.ne_of_gt h1)
  have h6 := Int.emod_lt_of_pos a h1
  have h7 : b * (a / b) + a % b = a := Int.mul_ediv_add_emod a b
  have e : a / b * b = b * (a / b) := Int.mul_comm _ _
  have q1 := z_div ha hb h h1 h2
  have q2 : (x / y * y).toInt = a / b * b := z_mul q1 hb (by omega) (by omega)
  rw [z_sub ha q2 (by omega) (by omega)]
  omega
theorem z_rng (x : Int32) : -2147483648 ≤ x.toInt ∧ x.toInt ≤ 2147483647 := by
  have h1 := Int32.le_toInt x
  have h2 := Int32.toInt_lt x
  omega
-- bits, by functions
def bitOf (b k : Int32) : Int32 := if (b >>> (k &&& 31)) &&& 1 = 1 then 1 else 0
def takesOf (f : Nat → Int32) (l m : Int32) : Int32 := f (5 * l + 2).toNatClampNeg + (if bitOf m l = 0 then 0 else 10)
theorem z_pop {v : Int32} (h : ¬ v = 0) : (v &&& (v - 1)).toBitVec.toNat < v.toBitVec.toNat := by
  have h0 : v.toBitVec ≠ 0 := fun q => h (Int32.toBitVec_inj.mp q)
  have hp : 0 < v.toBitVec.toNat := by
    rcases Nat.eq_zero_or_pos v.toBitVec.toNat with q | q
    · exact absurd (BitVec.eq_of_toNat_eq (by simpa using q)) h0
    · exact q
  have h1 : (v &&& (v - 1)).toBitVec.toNat = v.toBitVec.toNat &&& (v - 1).toBitVec.toNat := by rw [Int32.toBitVec_and, BitVec.toNat_and]
  have h2 : (v - 1).toBitVec.toNat = v.toBitVec.toNat - 1 := by
    rw [Int32.toBitVec_sub, BitVec.toNat_sub]
    have := v.toBitVec.isLt
    show (2 ^ 32 - 1 + v.toBitVec.toNat) % 2 ^ 32 = _
    omega
  rw [h1, h2]
  have : v.toBitVec.toNat &&& (v.toBitVec.toNat - 1) ≤ v.toBitVec.toNat - 1 := Nat.and_le_right
  omega
-- acts: one that holds a gate (kind 1) names a gate
def AK (f : Nat → Int32) : Prop := ∀ j, j < 200 → f (3 * j) = 1 → (f (3 * j + 1)).toInt ≤ 3
theorem AK.use {f : Nat → Int32} (h : AK f) {i j : Int32} (h0 : 0 ≤ i.toInt) (h1 : i.toInt < 600) (h2 : i.toInt % 3 = 0) (hj : j.toInt = i.toInt + 1) (hk : f i.toNatClampNeg = 1) : (f j.toNatClampNeg).toInt ≤ 3 := by
  have e1 := z_clv h0
  have e2 := z_clv (x := j) (by omega)
  have q1 : i.toNatClampNeg = 3 * (i.toNatClampNeg / 3) := by omega
  have q2 : j.toNatClampNeg = 3 * (i.toNatClampNeg / 3) + 1 := by omega
  rw [q2]
  rw [q1] at hk
  exact h _ (by omega) hk
