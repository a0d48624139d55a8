def lenS : List Nat := [4, 7, 4, 2, 5, 5, 6, 4, 2, 5, 5, 5, 4, 5, 8, 4]
def bytS : List (List Int32) := [[116, 111, 119, 110], [115, 116, 114, 101, 101, 116, 115], [108, 97, 110, 101], [116, 111], [116, 97, 107, 101, 115], [109, 117, 100, 100, 121], [98, 97, 114, 114, 101, 100], [103, 97, 116, 101], [97, 116], [104, 111, 108, 100, 115], [104, 111, 117, 115, 101], [119, 97, 110, 116, 115], [112, 97, 121, 115], [108, 111, 97, 100, 115], [115, 116, 114, 97, 110, 103, 101, 114], [102, 114, 111, 109]]
def strQ : List (Nat × Nat × String) := [(0, 61, "town"), (1, 105, "streets"), (2, 70, "lane"), (3, 123, "to"), (4, 128, "takes"), (5, 135, "muddy"), (6, 136, "barred"), (7, 81, "gate"), (8, 145, "at"), (9, 150, "holds"), (10, 89, "house"), (11, 158, "wants"), (12, 162, "pays"), (13, 166, "loads"), (14, 97, "stranger"), (15, 173, "from")]
theorem lenS_le : ∀ i, i < 16 → lenS.getD i 0 ≤ 8 := by decide
theorem lenS_z : ∀ i, i < 16 → (Int32.ofNat (lenS.getD i 0)).toInt = ((lenS.getD i 0 : Nat) : Int) := by decide
theorem z_sh0 (x : Int32) : x >>> ((0 : Int32) &&& 31) = x := by
  apply Int32.toBitVec_inj.mp
  simp
def SXo (A : Nat → Prop) (adK adV : Nat → Nat) (vF : Value) (U : State) : Prop := vk_S 16 lenS bytS adK adV A U U.heap ∧ (∀ q ∈ strQ, vk_R RX9 q.2.1 q.2.2 (adK q.1) U) ∧ va_Z "java/lang/String" "COMPACT_STRINGS" "Z" (.int 1) A U U.heap ∧ va_Z "jdk/internal/util/Preconditions" "SIOOBE_FORMATTER" "Ljava/util/function/BiFunction;" vF A U U.heap ∧ (vF = .null ∨ ∃ a, vF = .ref a)
theorem SXo.call {A : Nat → Prop} {adK adV : Nat → Nat} {vF : Value} {U : State} {g : JFrame} {mk : MethodId} {a : Array Value} (h : SXo A adK adV vF U) : SXo A adK adV vF (U.calling g mk a) :=
  ⟨vk_S.moved (u := U) (U := U.calling g mk a) (Vm.Alike.refl U.vm) h.1, fun q hq => vk_R.same (u := U) (U := U.calling g mk a) rfl (h.2.1 q hq), va_Z.moved (u := U) (U := U.calling g mk a) (Vm.Alike.refl U.vm) h.2.2.1, va_Z.moved (u := U) (U := U.calling g mk a) (Vm.Alike.refl U.vm) h.2.2.2.1, h.2.2.2.2⟩
theorem SXo.sub {A B : Nat → Prop} {adK adV : Nat → Nat} {vF : Value} {s U : State} {H : Heap} {locs : List Loc} (h : SXo A adK adV vF s) (hS : va_S A s.heap H locs) (hAB : ∀ q, B q → A q) (hU : U.heap = H) (hW : s.WarmedH U.vm) : SXo B adK adV vF U := by
  refine ⟨?_, fun q hq => vk_R.warm hW (h.2.1 q hq), ?_, ?_, h.2.2.2.2⟩
  · rw [hU]; exact vk_S.moved hW.alike ((h.1.kept hS.2.1).narrow hAB)
  · rw [hU]; exact va_Z.moved hW.alike ((h.2.2.1.kept hS.2.1).narrow hAB)
  · rw [hU]; exact va_Z.moved hW.alike ((h.2.2.2.1.kept hS.2.1).narrow hAB)
abbrev Pre1 (D : va_G) (k : Nat → ClassId) (adK adV : Nat → Nat) (vF : Value) (w : va_W) (sz : Nat) (av : List Value) : Array Value → State → Prop := va_Pc av (fun U => U.heap.size = sz ∧ va_P D vwCl w U.heap ∧ va_K D vwCl (tyG k) U ∧ va_D (fun _ => True) w ∧ NX U ∧ SXo (va_A w sz) adK adV vF U)
theorem cz_blind1 {D : va_G} {k : Nat → ClassId} {adK adV : Nat → Nat} {vF : Value} {w : va_W} {sz : Nat} {av : List Value} : FrameBlind (Pre1 D k adK adV vF w sz av) := fun a U g mk q => by
  obtain ⟨q0, q1, qP, qK, qD, qN, qX⟩ := q
  exact ⟨q0, q1, qP, va_K.moved (u := U) (U := U.calling g mk a) (Vm.Alike.refl U.vm) qK, qD, qN.call, qX.call⟩
theorem cz_S1 {D : va_G} {k : Nat → ClassId} {adK adV : Nat → Nat} {vF : Value} {w : va_W} {A : Nat → Prop} {s : State} {H : Heap} {locs : List Loc} (hK : va_K D vwCl (tyG k) s) (hP : va_P D vwCl w H) (hD : va_D A w) (hN : NX s) (hX : SXo A adK adV vF s) (hS : va_S A s.heap H locs) (hF : ∀ q, va_A w H.size q → A q) (As : List Value) : PreS s H (Pre1 D k adK adV vF w H.size As) As :=
  ⟨cz_blind1, fun U hU hW => ⟨rfl, by rw [hU], by rw [hU]; exact hP, va_K.moved hW.alike hK, hD.weaken (fun _ _ _ _ => trivial), hN.warm hW, hX.sub hS hF hU hW⟩⟩
theorem cz_V1 {D : va_G} {k : Nat → ClassId} {adK adV : Nat → Nat} {vF : Value} {w : va_W} {A : Nat → Prop} {s : State} {H : Heap} {locs : List Loc} {b q0 ci : Nat} {q : vw_C} {fs : List Value} (hK : va_K D vwCl (tyG k) s) (hP : va_P D vwCl w H) (hD : va_D A w) (hN : NX s) (hX : SXo A adK adV vF s) (hS : va_S A s.heap H locs) (hF : ∀ q, va_A w H.size q → A q) (hc : vwCl[ci]? = some q) (he : w[q0]? = some (b, .inr (ci, fs))) (As : List Value) : PreV s H q.1 b (Pre1 D k adK adV vF w H.size (.ref b :: As)) As :=
  ⟨cz_blind1, va_recv hK hP hc he, fun U hU hW => ⟨rfl, by rw [hU], by rw [hU]; exact hP, va_K.moved hW.alike hK, hD.weaken (fun _ _ _ _ => trivial), hN.warm hW, hX.sub hS hF hU hW⟩⟩
theorem cz_VS {D : va_G} {k : Nat → ClassId} {adK adV : Nat → Nat} {vF : Value} {w : va_W} {A : Nat → Prop} {s : State} {H : Heap} {locs : List Loc} {i : Nat} (hK : va_K D vwCl (tyG k) s) (hP : va_P D vwCl w H) (hD : va_D A w) (hN : NX s) (hX : SXo A adK adV vF s) (hS : va_S A s.heap H locs) (hF : ∀ q, va_A w H.size q → A q) (hi : i < 16) (As : List Value) : PreV s H "java/lang/String" (adK i) (Pre1 D k adK adV vF w H.size (.ref (adK i) :: As)) As :=
  ⟨cz_blind1, vk_recv hX.1 hi hS, fun U hU hW => ⟨rfl, by rw [hU], by rw [hU]; exact hP, va_K.moved hW.alike hK, hD.weaken (fun _ _ _ _ => trivial), hN.warm hW, hX.sub hS hF hU hW⟩⟩

-- a number of a row
def NUMq (g : Nat → Int64) (a b n : Int) (r : Int64) : Prop := (r = 0 ∧ (b < 0 ∨ n ≤ b)) ∨ (0 ≤ b ∧ b < n ∧ ∃ ix : Int32, ix.toInt = 60 * a + b ∧ r = g ix.toNatClampNeg)
theorem NUMq.cs {g : Nat → Int64} {a b n : Int} {r : Int64} {P : Prop} (h : NUMq g a b n r) (h1 : r = 0 → (b < 0 ∨ n ≤ b) → P) (h2 : ∀ ix : Int32, 0 ≤ b → b < n → ix.toInt = 60 * a + b → r = g ix.toNatClampNeg → P) : P := by
  rcases h with ⟨q1, q2⟩ | ⟨q1, q2, ix, q3, q4⟩
  · exact h1 q1 q2
  · exact h2 ix q1 q2 q3 q4
