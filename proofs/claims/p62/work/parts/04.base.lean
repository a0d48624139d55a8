-- the words of the tables that every method may use: one list for all of them
def TT : List Cond := lw_tbl.filter goodWord
theorem TT_mem {w : Cond} (h : w ∈ lw_tbl) (g : goodWord w = true) : w ∈ TT := List.mem_filter.mpr ⟨h, g⟩
theorem TT_in {w : Cond} (h : w ∈ TT) : w ∈ lw_tbl := (List.mem_filter.mp h).1
theorem TT_ok {w : Cond} (h : w ∈ TT) : w ∈ TT ∧ ((w.onTables && w.keeps) = true ∨ ∃ ty, w = .arrayClass ty) := ⟨h, good_of_word (List.mem_filter.mp h).2⟩
theorem tt_0 {w : Cond} (h : w ∈ tables_1) (g : goodWord w = true) : w ∈ TT := TT_mem (List.mem_append_right _ h) g
theorem tt_1 {w : Cond} {i : Nat} (h : tables_1_1[i]? = some w) (g : goodWord w = true) : w ∈ TT := tt_0 (List.mem_append_left _ (List.mem_of_getElem? h)) g
theorem tt_2 {w : Cond} {i : Nat} (h : tables_1_2[i]? = some w) (g : goodWord w = true) : w ∈ TT := tt_0 (List.mem_append_right _ (List.mem_append_left _ (List.mem_of_getElem? h))) g
theorem tt_3 {w : Cond} {i : Nat} (h : tables_1_3[i]? = some w) (g : goodWord w = true) : w ∈ TT := tt_0 (List.mem_append_right _ (List.mem_append_right _ (List.mem_append_left _ (List.mem_of_getElem? h)))) g
theorem tt_4 {w : Cond} {i : Nat} (h : tables_1_4[i]? = some w) (g : goodWord w = true) : w ∈ TT := tt_0 (List.mem_append_right _ (List.mem_append_right _ (List.mem_append_right _ (List.mem_append_left _ (List.mem_of_getElem? h))))) g
theorem tt_5 {w : Cond} {i : Nat} (h : tables_1_5[i]? = some w) (g : goodWord w = true) : w ∈ TT := tt_0 (List.mem_append_right _ (List.mem_append_right _ (List.mem_append_right _ (List.mem_append_right _ (List.mem_append_left _ (List.mem_of_getElem? h)))))) g
theorem tt_6 {w : Cond} {i : Nat} (h : tables_1_6[i]? = some w) (g : goodWord w = true) : w ∈ TT := tt_0 (List.mem_append_right _ (List.mem_append_right _ (List.mem_append_right _ (List.mem_append_right _ (List.mem_append_right _ (List.mem_append_left _ (List.mem_of_getElem? h))))))) g
theorem tt_7 {w : Cond} {i : Nat} (h : tables_1_7[i]? = some w) (g : goodWord w = true) : w ∈ TT := tt_0 (List.mem_append_right _ (List.mem_append_right _ (List.mem_append_right _ (List.mem_append_right _ (List.mem_append_right _ (List.mem_append_right _ (List.mem_append_left _ (List.mem_of_getElem? h)))))))) g
theorem tt_8 {w : Cond} {i : Nat} (h : tables_1_8[i]? = some w) (g : goodWord w = true) : w ∈ TT := tt_0 (List.mem_append_right _ (List.mem_append_right _ (List.mem_append_right _ (List.mem_append_right _ (List.mem_append_right _ (List.mem_append_right _ (List.mem_append_right _ (List.mem_append_left _ (List.mem_of_getElem? h))))))))) g
theorem tt_9 {w : Cond} {i : Nat} (h : tables_1_9[i]? = some w) (g : goodWord w = true) : w ∈ TT := tt_0 (List.mem_append_right _ (List.mem_append_right _ (List.mem_append_right _ (List.mem_append_right _ (List.mem_append_right _ (List.mem_append_right _ (List.mem_append_right _ (List.mem_append_right _ (List.mem_of_getElem? h))))))))) g
theorem tt_p {q : MethodName × Nat} {i : Nat} (h : lw_privs[i]? = some q) : Cond.selects q.1.cls q.1 q.1 ∈ TT := TT_mem (List.mem_append_left _ (List.mem_map.mpr ⟨q, List.mem_of_getElem? h, rfl⟩)) rfl
abbrev ww (y : MethodName) (c : ByteArray) (n : Nat) (r : Option FieldType) : List Cond := Cond.code y c n r :: TT
theorem gI {y : MethodName} {c : ByteArray} {n : Nat} {r : Option FieldType} (h : Cond.code y c n r ∈ TT) : GoodIn TT (ww y c n r) := fun w hw => (List.mem_cons.mp hw).elim (fun e => by rw [e]; exact TT_ok h) TT_ok
theorem gV {own C : String} {idx : Nat} {y : MethodName} {c : ByteArray} {n : Nat} {r : Option FieldType} (h1 : Cond.methodLink own idx y ∈ TT) (h2 : Cond.instanceMethod y ∈ TT) (h3 : Cond.selects C y y ∈ TT) (h4 : Cond.initialized C ∈ TT) (h : Cond.code y c n r ∈ TT) : GoodIn TT (wsV own idx C y (ww y c n r)) := by
  intro w hw
  rcases List.mem_append.mp hw with hw | hw
  · rcases List.mem_cons.mp hw with e | hw
    · rw [e]; exact TT_ok h1
    rcases List.mem_cons.mp hw with e | hw
    · rw [e]; exact TT_ok h2
    rcases List.mem_cons.mp hw with e | hw
    · rw [e]; exact TT_ok h3
    rcases List.mem_cons.mp hw with e | hw
    · rw [e]; exact TT_ok h4
    exact absurd hw List.not_mem_nil
  · exact gI h w hw
theorem gS {own : String} {idx : Nat} {y : MethodName} {c : ByteArray} {n : Nat} {r : Option FieldType} (h1 : Cond.methodLink own idx y ∈ TT) (h2 : Cond.static y ∈ TT) (h4 : Cond.initialized y.cls ∈ TT) (h : Cond.code y c n r ∈ TT) : GoodIn TT (va_wsS own idx y (ww y c n r)) := by
  intro w hw
  rcases List.mem_append.mp hw with hw | hw
  · rcases List.mem_cons.mp hw with e | hw
    · rw [e]; exact TT_ok h1
    rcases List.mem_cons.mp hw with e | hw
    · rw [e]; exact TT_ok h2
    rcases List.mem_cons.mp hw with e | hw
    · rw [e]; exact TT_ok h4
    exact absurd hw List.not_mem_nil
  · exact gI h w hw
-- the calls among nest mates, and the arrays over DarkGate$Town: what the tables say of them goes along with every contract
def nwQ : List (String × Nat × MethodName × String) := [(RX2, 17, yX1_init, RX11), (RX2, 107, yX11_minuteOrNone, RX11), (RX3, 11, yX1_init, RX11), (RX4, 20, yX1_init, RX11), (RX6, 24, yX1_init, RX11), (RX7, 20, yX1_init, RX11), (RX9, 23, yX10_init, RX11), (RX10, 72, yX0_init, RX11), (RX11, 11, yX9_init, RX11), (RX11, 18, yX10_init, RX11), (RX11, 33, yX8_init, RX11), (RX11, 40, yX1_init, RX11), (RX11, 50, yX4_init, RX11), (RX11, 57, yX7_init, RX11), (RX11, 64, yX2_init, RX11), (RX11, 71, yX6_init, RX11), (RX11, 78, yX5_init, RX11), (RX11, 85, yX3_init, RX11)]
def NX (U : State) : Prop := (∀ q ∈ nwQ, va_Nw (.methodLinkNest q.1 q.2.1 q.2.2.1 q.2.2.2) U) ∧ va_AO RX10 U
theorem NX.warm {s U : State} (hW : s.WarmedH U.vm) (h : NX s) : NX U := ⟨fun q hq => va_Nw.warmM hW (h.1 q hq), va_AO.moved hW.alike h.2⟩
theorem NX.call {U : State} {g : JFrame} {mk : MethodId} {a : Array Value} (h : NX U) : NX (U.calling g mk a) := ⟨fun q hq => va_Nw.same rfl rfl (h.1 q hq), va_AO.moved (Vm.Alike.refl U.vm) h.2⟩
-- the classes of arrays: 0 int, 1 byte, 2 long, 3 boolean, 4 DarkGate$Town
abbrev tyG (k : Nat → ClassId) : List (ClassId × FieldType) := [(k 0, .int), (k 1, .byte), (k 2, .long), (k 3, .boolean), (k 4, .object RX10)]
abbrev Pre0 (D : va_G) (k : Nat → ClassId) (w : va_W) (sz : Nat) (av : List Value) : Array Value → State → Prop := va_Pc av (fun U => U.heap.size = sz ∧ va_P D vwCl w U.heap ∧ va_K D vwCl (tyG k) U ∧ va_D (fun _ => True) w ∧ NX U)
abbrev Bw (D : va_G) (k : Nat → ClassId) (A : Nat → Prop) (w : va_W) (t : State) : Prop := va_P D vwCl w t.heap ∧ va_K D vwCl (tyG k) t ∧ va_D A w
theorem cz_blind {D : va_G} {k : Nat → ClassId} {w : va_W} {sz : Nat} {av : List Value} : FrameBlind (Pre0 D k w sz av) := fun a U g mk q => by
  obtain ⟨q0, q1, qP, qK, qD, qN⟩ := q
  exact ⟨q0, q1, qP, va_K.moved (u := U) (U := U.calling g mk a) (Vm.Alike.refl U.vm) qK, qD, qN.call⟩
theorem cz_S {D : va_G} {k : Nat → ClassId} {w : va_W} {A : Nat → Prop} {s : State} {H : Heap} (hK : va_K D vwCl (tyG k) s) (hP : va_P D vwCl w H) (hD : va_D A w) (hN : NX s) (As : List Value) : PreS s H (Pre0 D k w H.size As) As :=
  ⟨cz_blind, fun U hU hW => ⟨rfl, by rw [hU], by rw [hU]; exact hP, va_K.moved hW.alike hK, hD.weaken (fun _ _ _ _ => trivial), hN.warm hW⟩⟩
theorem cz_V {D : va_G} {k : Nat → ClassId} {w : va_W} {A : Nat → Prop} {s : State} {H : Heap} {b q0 ci : Nat} {q : vw_C} {fs : List Value} (hK : va_K D vwCl (tyG k) s) (hP : va_P D vwCl w H) (hD : va_D A w) (hN : NX s) (hc : vwCl[ci]? = some q) (he : w[q0]? = some (b, .inr (ci, fs))) (As : List Value) : PreV s H q.1 b (Pre0 D k w H.size (.ref b :: As)) As :=
  ⟨cz_blind, va_recv hK hP hc he, fun U hU hW => ⟨rfl, by rw [hU], by rw [hU]; exact hP, va_K.moved hW.alike hK, hD.weaken (fun _ _ _ _ => trivial), hN.warm hW⟩⟩
/-- an array class of the tables is the one that is known -/
theorem nw_same {D : va_G} {cl : List vw_C} {tys : List (ClassId × FieldType)} {s : State} {cA c0 : ClassId} {ty : FieldType} {t0 : Nat} (h : va_K D cl (tys ++ [(cA, ty)]) s) (h0 : tys[t0]? = some (c0, ty)) : cA = c0 := by
  have h1 := (h.2 tys.length (cA, ty) (by simp)).2
  have h2 := (h.2 t0 (c0, ty) (by rw [List.getElem?_append_left (by exact (List.getElem?_eq_some_iff.mp h0).1)]; exact h0)).2
  cases ty <;> first
    | (obtain ⟨_, _, _, _, _, e1⟩ := h1; obtain ⟨_, _, _, _, _, e2⟩ := h2; rw [e1] at e2; exact Option.some.inj e2)
    | (have e1 : s.vm.findClass _ = some cA := h1; have e2 : s.vm.findClass _ = some c0 := h2; rw [e1] at e2; exact Option.some.inj e2)
section NW
variable {p : Program} {l : Launch} {e : Env} {R : Room} {s : State} {m : MethodId} {args : Array Value} {below : List Frame} {meth : Method} {c : Code} {H H0 : Heap} {locs : List Loc} {cells slots pc : Nat} {Q : State → Prop} {ls : Array Slot} {rest : List Value} {D : va_G} {k : Nat → ClassId} {ws : va_W} {A : Nat → Prop} {cc : ByteArray}
theorem nw_int (hexec : p.tables.exec = Jvm.exec) (hb : c.code = cc) (harr : (Cond.arrayClass .int).before args s = true) (hK : va_K D vwCl (tyG k) s) (hP : va_P D vwCl ws H) (hD : va_D A ws) (hS : va_S A H0 H locs) (hA : ∀ q, H0.size ≤ q → A q) {n : Int32} {N' : Nat} (hn : ¬ n < 0) (hN : n.toNatClampNeg = N') (hbytes : N' * 4 ≤ 536870912) (hcells : cells + 1 ≤ R.cells) (hslots : slots + N' ≤ R.slots) (hdg : decode cc pc = .ok (.newarray .int, 2))
    (kk : ∀ (q : Nat) (H1 : Heap), va_P D vwCl (ws ++ [(q, .inl (k 0, N', .inl (fun _ => 0)))]) H1 → va_D A (ws ++ [(q, .inl (k 0, N', .inl (fun _ => 0)))]) → va_S A H0 H1 locs → W p l e R s m args below meth c H1 locs (cells + 1) (slots + N') Q (F0 m (pc + 2) ls (.ref q :: rest))) : W p l e R s m args below meth c H locs cells slots Q (F0 m pc ls (.int n :: rest)) := by
  refine va_newa (atype := .int) (ty := .int) (a0 := (N', .inl (fun _ => 0))) hexec hb harr rfl hK hP hD hS hA (fun _ => rfl) hn hN hbytes hcells hslots hdg (fun q cA H1 hK1 hP1 hD1 hS1 => ?_)
  obtain rfl := nw_same (t0 := 0) (c0 := k 0) hK1 rfl
  exact kk q H1 hP1 hD1 hS1
theorem nw_byte (hexec : p.tables.exec = Jvm.exec) (hb : c.code = cc) (harr : (Cond.arrayClass .byte).before args s = true) (hK : va_K D vwCl (tyG k) s) (hP : va_P D vwCl ws H) (hD : va_D A ws) (hS : va_S A H0 H locs) (hA : ∀ q, H0.size ≤ q → A q) {n : Int32} {N' : Nat} (hn : ¬ n < 0) (hN : n.toNatClampNeg = N') (hbytes : N' * 1 ≤ 536870912) (hcells : cells + 1 ≤ R.cells) (hslots : slots + N' ≤ R.slots) (hdg : decode cc pc = .ok (.newarray .byte, 2))
    (kk : ∀ (q : Nat) (H1 : Heap), va_P D vwCl (ws ++ [(q, .inl (k 1, N', .inl (fun _ => 0)))]) H1 → va_D A (ws ++ [(q, .inl (k 1, N', .inl (fun _ => 0)))]) → va_S A H0 H1 locs → W p l e R s m args below meth c H1 locs (cells + 1) (slots + N') Q (F0 m (pc + 2) ls (.ref q :: rest))) : W p l e R s m args below meth c H locs cells slots Q (F0 m pc ls (.int n :: rest)) := by
  refine va_newa (atype := .byte) (ty := .byte) (a0 := (N', .inl (fun _ => 0))) hexec hb harr rfl hK hP hD hS hA (fun _ => rfl) hn hN hbytes hcells hslots hdg (fun q cA H1 hK1 hP1 hD1 hS1 => ?_)
  obtain rfl := nw_same (t0 := 1) (c0 := k 1) hK1 rfl
  exact kk q H1 hP1 hD1 hS1
theorem nw_bool (hexec : p.tables.exec = Jvm.exec) (hb : c.code = cc) (harr : (Cond.arrayClass .boolean).before args s = true) (hK : va_K D vwCl (tyG k) s) (hP : va_P D vwCl ws H) (hD : va_D A ws) (hS : va_S A H0 H locs) (hA : ∀ q, H0.size ≤ q → A q) {n : Int32} {N' : Nat} (hn : ¬ n < 0) (hN : n.toNatClampNeg = N') (hbytes : N' * 1 ≤ 536870912) (hcells : cells + 1 ≤ R.cells) (hslots : slots + N' ≤ R.slots) (hdg : decode cc pc = .ok (.newarray .boolean, 2))
    (kk : ∀ (q : Nat) (H1 : Heap), va_P D vwCl (ws ++ [(q, .inl (k 3, N', .inl (fun _ => 0)))]) H1 → va_D A (ws ++ [(q, .inl (k 3, N', .inl (fun _ => 0)))]) → va_S A H0 H1 locs → W p l e R s m args below meth c H1 locs (cells + 1) (slots + N') Q (F0 m (pc + 2) ls (.ref q :: rest))) : W p l e R s m args below meth c H locs cells slots Q (F0 m pc ls (.int n :: rest)) := by
  refine va_newa (atype := .boolean) (ty := .boolean) (a0 := (N', .inl (fun _ => 0))) hexec hb harr rfl hK hP hD hS hA (fun _ => rfl) hn hN hbytes hcells hslots hdg (fun q cA H1 hK1 hP1 hD1 hS1 => ?_)
  obtain rfl := nw_same (t0 := 3) (c0 := k 3) hK1 rfl
  exact kk q H1 hP1 hD1 hS1
theorem nw_long (hexec : p.tables.exec = Jvm.exec) (hb : c.code = cc) (harr : (Cond.arrayClass .long).before args s = true) (hK : va_K D vwCl (tyG k) s) (hP : va_P D vwCl ws H) (hD : va_D A ws) (hS : va_S A H0 H locs) (hA : ∀ q, H0.size ≤ q → A q) {n : Int32} {N' : Nat} (hn : ¬ n < 0) (hN : n.toNatClampNeg = N') (hbytes : N' * 8 ≤ 536870912) (hcells : cells + 1 ≤ R.cells) (hslots : slots + N' ≤ R.slots) (hdg : decode cc pc = .ok (.newarray .long, 2))
    (kk : ∀ (q : Nat) (H1 : Heap), va_P D vwCl (ws ++ [(q, .inl (k 2, N', .inr (.inl (fun _ => 0))))]) H1 → va_D A (ws ++ [(q, .inl (k 2, N', .inr (.inl (fun _ => 0))))]) → va_S A H0 H1 locs → W p l e R s m args below meth c H1 locs (cells + 1) (slots + N') Q (F0 m (pc + 2) ls (.ref q :: rest))) : W p l e R s m args below meth c H locs cells slots Q (F0 m pc ls (.int n :: rest)) := by
  refine va_newa (atype := .long) (ty := .long) (a0 := (N', .inr (.inl (fun _ => 0)))) hexec hb harr rfl hK hP hD hS hA (fun _ => rfl) hn hN hbytes hcells hslots hdg (fun q cA H1 hK1 hP1 hD1 hS1 => ?_)
  obtain rfl := nw_same (t0 := 2) (c0 := k 2) hK1 rfl
  exact kk q H1 hP1 hD1 hS1
theorem nw_ref (hexec : p.tables.exec = Jvm.exec) (hb : c.code = cc) {own : String} {index : Nat} (hown : s.vm.findClass own = some m.cls) (hclink : (Cond.classLink own index RX10).before args s = true) (hover : va_AO RX10 s) (hK : va_K D vwCl (tyG k) s) (hP : va_P D vwCl ws H) (hD : va_D A ws) (hS : va_S A H0 H locs) (hA : ∀ q, H0.size ≤ q → A q) {n : Int32} {N' : Nat} (hn : ¬ n < 0) (hN : n.toNatClampNeg = N') (hbytes : N' * 4 ≤ 536870912) (hcells : cells + 1 ≤ R.cells) (hslots : slots + N' ≤ R.slots) (hdg : decode cc pc = .ok (.anewarray index, 3))
    (kk : ∀ (q : Nat) (H1 : Heap), va_P D vwCl (ws ++ [(q, .inl (k 4, N', .inr (.inr (.inr (.inr (fun _ => none))))))]) H1 → va_D A (ws ++ [(q, .inl (k 4, N', .inr (.inr (.inr (.inr (fun _ => none))))))]) → va_S A H0 H1 locs → W p l e R s m args below meth c H1 locs (cells + 1) (slots + N') Q (F0 m (pc + 3) ls (.ref q :: rest))) : W p l e R s m args below meth c H locs cells slots Q (F0 m pc ls (.int n :: rest)) := by
  refine va_newq hexec hb hown hclink hover hK hP hD hS hA hn hN hbytes hcells hslots hdg (fun q cA H1 hK1 hP1 hD1 hS1 => ?_)
  obtain rfl := nw_same (t0 := 4) (c0 := k 4) hK1 rfl
  exact kk q H1 hP1 hD1 hS1
end NW
-- what branches and sums say, as Ints (for omega)
theorem z_eq {x y : Int32} (h : x = y) : x.toInt = y.toInt := by rw [h]
theorem z_ne {x y : Int32} (h : ¬ x = y) : ¬ x.toInt = y.toInt := fun q => h (Int32.toInt_inj.mp q)
theorem z_lt {x y : Int32} (h : x < y) : x.toInt < y.toInt := Int32.lt_iff_toInt_lt.mp h
theorem z_le {x y : Int32} (h : x ≤ y) : x.toInt ≤ y.toInt := Int32.le_iff_toInt_le.mp h
theorem z_gt {x y : Int32} (h : y < x) : y.toInt < x.toInt := Int32.lt_iff_toInt_lt.mp h
theorem z_ge {x y : Int32} (h : y ≤ x) : y.toInt ≤ x.toInt := Int32.le_iff_toInt_le.mp h
theorem z_nlt {x y : Int32} (h : ¬ x < y) : y.toInt ≤ x.toInt := Int.not_lt.mp (fun q => h (Int32.lt_iff_toInt_lt.mpr q))
theorem z_nle {x y : Int32} (h : ¬ x ≤ y) : y.toInt < x.toInt := Int.not_le.mp (fun q => h (Int32.le_iff_toInt_le.mpr q))
theorem z_in {x : Int32} {n : Nat} (h1 : 0 ≤ x.toInt) (h2 : x.toInt < n) : vp_in x n := vp_in_iff.mpr ⟨h1, h2⟩
theorem z_cl {x : Int32} {n : Nat} (h1 : 0 ≤ x.toInt) (h2 : x.toInt < n) : x.toNatClampNeg < n := by
  have h : (x.toNatClampNeg : Int) = x.toInt := by rw [Int32.toNatClampNeg]; exact Int.toNat_of_nonneg h1
  omega
theorem z_clv {x : Int32} (h1 : 0 ≤ x.toInt) : (x.toNatClampNeg : Int) = x.toInt := by rw [Int32.toNatClampNeg]; exact Int.toNat_of_nonneg h1
theorem z_bm {a : Int} (h1 : -2147483648 ≤ a) (h2 : a ≤ 2147483647) : a.bmod (2 ^ 32) = a := by
  rw [Int.bmod_def]; omega
theorem z_bl {a : Int} (h1 : -9223372036854775808 ≤ a) (h2 : a ≤ 9223372036854775807) : a.bmod (2 ^ 64) = a := by
  rw [Int.bmod_def]; omega
theorem z_add {x y : Int32} {a b : Int} (ha : x.toInt = a) (hb : y.toInt = b) (h1 : -2147483648 ≤ a + b) (h2 : a + b ≤ 2147483647) : (x + y).toInt = a + b := by rw [Int32.toInt_add, ha, hb]; exact z_bm h1 h2
theorem z_sub {x y : Int32} {a b : Int} (ha : x.toInt = a) (hb : y.toInt = b) (h1 : -2147483648 ≤ a - b) (h2 : a - b ≤ 2147483647) : (x - y).toInt = a - b := by rw [Int32.toInt_sub, ha, hb]; exact z_bm h1 h2
theorem z_mul {x y : Int32} {a b : Int} (ha : x.toInt = a) (hb : y.toInt = b) (h1 : -2147483648 ≤ a * b) (h2 : a * b ≤ 2147483647) : (x * y).toInt = a * b := by rw [Int32.toInt_mul, ha, hb]; exact z_bm h1 h2
theorem zl_add {x y : Int64} {a b : Int} (ha : x.toInt = a) (hb : y.toInt = b) (h1 : -9223372036854775808 ≤ a + b) (h2 : a + b ≤ 9223372036854775807) : (x + y).toInt = a + b := by rw [Int64.toInt_add, ha, hb]; exact z_bl h1 h2
theorem zl_sub {x y : Int64} {a b : Int} (ha : x.toInt = a) (hb : y.toInt = b) (h1 : -9223372036854775808 ≤ a - b) (h2 : a - b ≤ 9223372036854775807) : (x - y).toInt = a - b := by rw [Int64.toInt_sub, ha, hb]; exact z_bl h1 h2
theorem z_nar {r : Int32} (h : r.toInt = 0 ∨ r.toInt = 1) : narrow .boolean (.int r) = .int r := by
  rcases h with h | h
  · rw [show r = 0 from Int32.toInt_inj.mp h]; rfl
  · rw [show r = 1 from Int32.toInt_inj.mp h]; rfl
theorem zL_lt {x y : Int64} {a b : Int} (h : lg_cmp x y < 0) (ha : x.toInt = a) (hb : y.toInt = b) : a < b := by rw [← ha, ← hb]; exact Int64.lt_iff_toInt_lt.mp ((lg_cmp_lt x y).mp h)
theorem zL_le {x y : Int64} {a b : Int} (h : lg_cmp x y ≤ 0) (ha : x.toInt = a) (hb : y.toInt = b) : a ≤ b := by rw [← ha, ← hb]; exact Int64.le_iff_toInt_le.mp ((lg_cmp_le x y).mp h)
theorem zL_gt {x y : Int64} {a b : Int} (h : 0 < lg_cmp x y) (ha : x.toInt = a) (hb : y.toInt = b) : b < a := by rw [← ha, ← hb]; exact Int64.lt_iff_toInt_lt.mp ((lg_cmp_gt x y).mp h)
theorem zL_ge {x y : Int64} {a b : Int} (h : 0 ≤ lg_cmp x y) (ha : x.toInt = a) (hb : y.toInt = b) : b ≤ a := by rw [← ha, ← hb]; exact Int64.le_iff_toInt_le.mp ((lg_cmp_ge x y).mp h)
theorem zL_eq {x y : Int64} {a b : Int} (h : lg_cmp x y = 0) (ha : x.toInt = a) (hb : y.toInt = b) : a = b := by rw [← ha, ← hb, (lg_cmp_eq x y).mp h]
theorem zL_ne {x y : Int64} {a b : Int} (h : ¬ lg_cmp x y = 0) (ha : x.toInt = a) (hb : y.toInt = b) : ¬ a = b := by rw [← ha, ← hb]; exact fun q => h ((lg_cmp_eq x y).mpr (Int64.toInt_inj.mp q))
theorem zL_nlt {x y : Int64} {a b : Int} (h : ¬ lg_cmp x y < 0) (ha : x.toInt = a) (hb : y.toInt = b) : b ≤ a := by rw [← ha, ← hb]; exact Int.not_lt.mp (fun q => h ((lg_cmp_lt x y).mpr (Int64.lt_iff_toInt_lt.mpr q)))
theorem zL_nle {x y : Int64} {a b : Int} (h : ¬ lg_cmp x y ≤ 0) (ha : x.toInt = a) (hb : y.toInt = b) : b < a := by rw [← ha, ← hb]; exact Int.not_le.mp (fun q => h ((lg_cmp_le x y).mpr (Int64.le_iff_toInt_le.mpr q)))
theorem zL_ngt {x y : Int64} {a b : Int} (h : ¬ 0 < lg_cmp x y) (ha : x.toInt = a) (hb : y.toInt = b) : a ≤ b := by rw [← ha, ← hb]; exact Int.not_lt.mp (fun q => h ((lg_cmp_gt x y).mpr (Int64.lt_iff_toInt_lt.mpr q)))
theorem zL_nge {x y : Int64} {a b : Int} (h : ¬ 0 ≤ lg_cmp x y) (ha : x.toInt = a) (hb : y.toInt = b) : a < b := by rw [← ha, ← hb]; exact Int.not_le.mp (fun q => h ((lg_cmp_ge x y).mpr (Int64.le_iff_toInt_le.mpr q)))
/-- a loop: a measure that falls, what holds at its head -/
theorem loop_r {Wg : Heap → List Loc → Array Slot → Prop} (Inv : Nat → Heap → List Loc → Array Slot → Prop) (step : ∀ n H locs ls, Inv n H locs ls → (∀ n' H' locs' ls', n' < n → Inv n' H' locs' ls' → Wg H' locs' ls') → Wg H locs ls) : ∀ n H locs ls, Inv n H locs ls → Wg H locs ls := by
  intro n
  induction n using Nat.strongRecOn with
  | _ n ih => exact fun H locs ls h => step n H locs ls h (fun n' H' locs' ls' hn h' => ih n' hn H' locs' ls' h')
theorem z_and (x : Int32) {m : Int32} (k n : Nat) (hm : m.toBitVec.toNat = 2 ^ k - 1) (hn : 2 ^ k = n) (hk : k ≤ 30) : 0 ≤ (x &&& m).toInt ∧ (x &&& m).toInt < n := by
  obtain ⟨j, hj, e⟩ := pk_andE x k hm
  have h1 : j < 2 ^ 31 := Nat.lt_of_lt_of_le hj (Nat.pow_le_pow_right (by decide) (by omega))
  rw [e, nI_toInt h1]
  omega
theorem z_ishr0 (y : Int32) : (0 : Int32) >>> (y &&& 31) = 0 := by
  apply Int32.toBitVec_inj.mp
  simp
theorem z_ishl0 (y : Int32) : (0 : Int32) <<< (y &&& 31) = 0 := by
  apply Int32.toBitVec_inj.mp
  simp
theorem z_c3 (x : Int32) (h1 : 0 ≤ x.toInt) (h2 : x.toInt < 3) : x = 0 ∨ x = 1 ∨ x = 2 := by
  have h : x.toInt = 0 ∨ x.toInt = 1 ∨ x.toInt = 2 := by omega
  rcases h with h | h | h
  · exact Or.inl (Int32.toInt_inj.mp h)
  · exact Or.inr (Or.inl (Int32.toInt_inj.mp h))
  · exact Or.inr (Or.inr (Int32.toInt_inj.mp h))
theorem z_c4 (x : Int32) (h1 : 0 ≤ x.toInt) (h2 : x.toInt < 4) : x = 0 ∨ x = 1 ∨ x = 2 ∨ x = 3 := by
  have h : x.toInt = 0 ∨ x.toInt = 1 ∨ x.toInt = 2 ∨ x.toInt = 3 := by omega
  rcases h with h | h | h | h
  · exact Or.inl (Int32.toInt_inj.mp h)
  · exact Or.inr (Or.inl (Int32.toInt_inj.mp h))
  · exact Or.inr (Or.inr (Or.inl (Int32.toInt_inj.mp h)))
  · exact Or.inr (Or.inr (Or.inr (Int32.toInt_inj.mp h)))
theorem upd0 {f : Nat → Int32} {k : Nat} (h : ∀ j, f j = 0) : ∀ j, upd f k 0 j = 0 := by
  intro j
  show (if j = k then (0 : Int32) else f j) = 0
  by_cases q : j = k
  · rw [if_pos q]
  · rw [if_neg q]; exact h j
theorem updx {f : Nat → Int32} {k : Nat} {x : Int32} (h : ∀ j, f j = 0) (hx : x = 0) : ∀ j, upd f k x j = 0 := by rw [hx]; exact upd0 h
theorem nq_X2_17 : (RX2, 17, yX1_init, RX11) ∈ nwQ := List.mem_of_getElem? (i := 0) rfl
theorem nq_X2_107 : (RX2, 107, yX11_minuteOrNone, RX11) ∈ nwQ := List.mem_of_getElem? (i := 1) rfl
theorem nq_X3_11 : (RX3, 11, yX1_init, RX11) ∈ nwQ := List.mem_of_getElem? (i := 2) rfl
theorem nq_X4_20 : (RX4, 20, yX1_init, RX11) ∈ nwQ := List.mem_of_getElem? (i := 3) rfl
theorem nq_X6_24 : (RX6, 24, yX1_init, RX11) ∈ nwQ := List.mem_of_getElem? (i := 4) rfl
theorem nq_X7_20 : (RX7, 20, yX1_init, RX11) ∈ nwQ := List.mem_of_getElem? (i := 5) rfl
theorem nq_X9_23 : (RX9, 23, yX10_init, RX11) ∈ nwQ := List.mem_of_getElem? (i := 6) rfl
theorem nq_X10_72 : (RX10, 72, yX0_init, RX11) ∈ nwQ := List.mem_of_getElem? (i := 7) rfl
theorem nq_X11_11 : (RX11, 11, yX9_init, RX11) ∈ nwQ := List.mem_of_getElem? (i := 8) rfl
theorem nq_X11_18 : (RX11, 18, yX10_init, RX11) ∈ nwQ := List.mem_of_getElem? (i := 9) rfl
theorem nq_X11_33 : (RX11, 33, yX8_init, RX11) ∈ nwQ := List.mem_of_getElem? (i := 10) rfl
theorem nq_X11_40 : (RX11, 40, yX1_init, RX11) ∈ nwQ := List.mem_of_getElem? (i := 11) rfl
theorem nq_X11_50 : (RX11, 50, yX4_init, RX11) ∈ nwQ := List.mem_of_getElem? (i := 12) rfl
theorem nq_X11_57 : (RX11, 57, yX7_init, RX11) ∈ nwQ := List.mem_of_getElem? (i := 13) rfl
theorem nq_X11_64 : (RX11, 64, yX2_init, RX11) ∈ nwQ := List.mem_of_getElem? (i := 14) rfl
theorem nq_X11_71 : (RX11, 71, yX6_init, RX11) ∈ nwQ := List.mem_of_getElem? (i := 15) rfl
theorem nq_X11_78 : (RX11, 78, yX5_init, RX11) ∈ nwQ := List.mem_of_getElem? (i := 16) rfl
theorem nq_X11_85 : (RX11, 85, yX3_init, RX11) ∈ nwQ := List.mem_of_getElem? (i := 17) rfl
