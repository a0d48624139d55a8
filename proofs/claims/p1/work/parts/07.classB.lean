def sp_end (n : Int32) : Int32 := if n.toInt = 0 then 0 else -1
def sp_fault (n : Int32) : Int32 := if n.toInt = 0 then 0 else -1
def sp_count (n : Int32) : Int32 := if 0 ≤ n.toInt ∧ n.toInt ≤ 8 then 0 else -1
def sp_image (k : Int32) : Int32 := if 0 ≤ k.toInt ∧ k.toInt < 3 then 0 else -2
def sp_back (k : Int32) : Int32 := if 0 ≤ k.toInt ∧ k.toInt < 3 then -6 else -2
def sp_row (s w n : Int32) : Int32 := if 0 ≤ s.toInt ∧ s.toInt < 4 ∧ 0 ≤ w.toInt ∧ w.toInt < 4 ∧ n.toInt ≤ 60 then (if n.toInt < 0 then -3 else 0) else -2
def sp_write (s : Int32) : Int32 := if 0 ≤ s.toInt ∧ s.toInt < 4 then -6 else -2
def sp_paste (s t : Int32) : Int32 := if 0 ≤ s.toInt ∧ s.toInt < 4 ∧ 0 ≤ t.toInt ∧ t.toInt < 4 then -6 else -2

set_option maxHeartbeats 4000000 in
set_option maxRecDepth 100000 in
theorem c_X9_hasRoom (l : Launch) (D : va_G) (k : Nat → ClassId) (ta : Nat) (a3 : Nat) (a4 : Nat) (sz : Nat) : Met l yX9_hasRoom (ww yX9_hasRoom cX9_hasRoom 1 (some .boolean)) ({ frames := 0, cells := 0, slots := 0, locals := 0 }) (Pre0 D k [(ta, .inr (9, [.int 0, .int 0, .int (-1), .ref a3, .ref a4, .int 0, .int 0, .int 0, .int 0]))] sz [.ref ta]) (va_Qi (fun (r : Int32) (_ : Unit) => r = 1) (fun (_ : Unit) tZ => Bw D k (va_A [(ta, .inr (9, [.int 0, .int 0, .int (-1), .ref a3, .ref a4, .int 0, .int 0, .int 0, .int 0]))] sz) [(ta, .inr (9, [.int 0, .int 0, .int (-1), .ref a3, .ref a4, .int 0, .int 0, .int 0, .int 0]))] tZ) (va_A [(ta, .inr (9, [.int 0, .int 0, .int (-1), .ref a3, .ref a4, .int 0, .int 0, .int 0, .int 0]))] sz)) 0 0 (va_A [(ta, .inr (9, [.int 0, .int 0, .int (-1), .ref a3, .ref a4, .int 0, .int 0, .int 0, .int 0]))] sz) := by
  refine Met.ofW (cc := cX9_hasRoom) (maxL := 1) (ret := (some .boolean)) (by decide +kernel) rfl ?_
  intro p e s m args below meth c s₁ B hml hv
  obtain ⟨rfl, hsz, hP, hK, hD0, hN⟩ := hv
  have hx := B.exec
  have hb := B.bytes
  have hr := B.returns
  have hts : ∀ w ∈ TT, w.before _ s = true := fun w h => atoms_spec (ws := ww yX9_hasRoom cX9_hasRoom 1 (some .boolean)) B.pre w (List.mem_cons_of_mem _ h)
  have hown : s.vm.findClass RX9 = some m.cls := findClass_of_methodNamed B.named
  have hlocks := B.notSynchronized
  subst hsz
  have hD := hD0.self (sz := s.heap.size)
  generalize hAe : va_A [(ta, .inr (9, [.int 0, .int 0, .int (-1), .ref a3, .ref a4, .int 0, .int 0, .int 0, .int 0]))] s.heap.size = A at hD ⊢
  have hA : ∀ q : Nat, s.heap.size ≤ q → A q := fun q h => by rw [← hAe]; exact Or.inr h
  have hS : va_S A s.heap s.heap [] := va_S.rf
  have hl := lv_entry ([.ref ta]) (n := 1) (Nat.le_of_ble_eq_true rfl)
  rw [lg_entry_eq]
  generalize (lg_sl ([.ref ta]) ++ List.replicate (1 - (lg_sl ([.ref ta])).length) Slot.unset).toArray = ls at hl ⊢
  have hl : lv_has ls 1 [(0, .ref ta)] := hl
  refine lv_aload_n hx hb dX9_hasRoom_0 rfl (lv_at hl 0 rfl) ?_
  refine va_get (D := D) (ci := 9) (v := .int 0) (C := RX9) (T := TX9) (N := 9) hx hb hts iT_X9 hown hK hP 0 rfl rfl 0 (by decide) (hts _ tw_1_195) (fun _ h9 => h9) rfl dX9_hasRoom_1 ?_
  refine lv_bipush (v := 20) hx hb dX9_hasRoom_4 (by decide) ?_
  refine lv_iadd hx hb dX9_hasRoom_6 ?_
  refine lv_topi (fun x_1 ex_1 => ?_)
  obtain rfl : x_1 = 20 := ex_1.trans (by decide)
  refine lv_sipush (v := 1000) hx hb dX9_hasRoom_7 (by decide) ?_
  refine lv_icmp_gt (tgt := 17) hx hb dX9_hasRoom_10 (by decide) (fun c9 => absurd c9 (by decide)) (fun _ => ?_)
  refine lv_iconst (v := 1) hx hb dX9_hasRoom_13 (by decide) ?_
  refine lv_goto (tgt := 18) hx hb dX9_hasRoom_14 (by decide) ?_
  have hP9 := hP.sub (ws' := [(ta, .inr (9, [.int 0, .int 0, .int (-1), .ref a3, .ref a4, .int 0, .int 0, .int 0, .int 0]))]) [0] rfl
  have hD9 := hD.sub (ws' := [(ta, .inr (9, [.int 0, .int 0, .int (-1), .ref a3, .ref a4, .int 0, .int 0, .int 0, .int 0]))]) [0] (by decide) rfl
  exact W.zret (v := 1) hx hb hr (by decide) (fun tZ ht hW => ⟨⟨1, (), rfl, rfl, by rw [ht]; exact hP9, va_K.moved hW.alike hK, hD9⟩, hS.F ht⟩) hS.2.2 dX9_hasRoom_18
set_option maxHeartbeats 4000000 in
set_option maxRecDepth 100000 in
theorem c_X9_append_0 (l : Launch) (D : va_G) (k : Nat → ClassId) (ta : Nat) (a3 : Nat) (a4 : Nat) (fb : Nat → Int32) (p0 : Int32) (sz : Nat) : Met l yX9_append (ww yX9_append cX9_append 3 none) ({ frames := 0, cells := 0, slots := 0, locals := 0 }) (Pre0 D k [(ta, .inr (9, [.int 0, .int 0, .int (-1), .ref a3, .ref a4, .int 0, .int 0, .int 0, .int 0])), (a4, .inl (k 1, 1000, .inl fb))] sz [.ref ta, .int p0]) (va_Qv (fun (f2 : (Nat → Int32)) => True) (fun (f2 : (Nat → Int32)) tZ => Bw D k (va_A [(ta, .inr (9, [.int 0, .int 0, .int (-1), .ref a3, .ref a4, .int 0, .int 0, .int 0, .int 0])), (a4, .inl (k 1, 1000, .inl fb))] sz) [(ta, .inr (9, [.int 4, .int 0, .int (-1), .ref a3, .ref a4, .int 0, .int 0, .int 0, .int 0])), (a4, .inl (k 1, 1000, .inl f2))] tZ) (va_A [(ta, .inr (9, [.int 0, .int 0, .int (-1), .ref a3, .ref a4, .int 0, .int 0, .int 0, .int 0])), (a4, .inl (k 1, 1000, .inl fb))] sz)) 0 0 (va_A [(ta, .inr (9, [.int 0, .int 0, .int (-1), .ref a3, .ref a4, .int 0, .int 0, .int 0, .int 0])), (a4, .inl (k 1, 1000, .inl fb))] sz) := by
  refine Met.ofW (cc := cX9_append) (maxL := 3) (ret := none) (by decide +kernel) rfl ?_
  intro p e s m args below meth c s₁ B hml hv
  obtain ⟨rfl, hsz, hP, hK, hD0, hN⟩ := hv
  have hx := B.exec
  have hb := B.bytes
  have hr := B.returns
  have hts : ∀ w ∈ TT, w.before _ s = true := fun w h => atoms_spec (ws := ww yX9_append cX9_append 3 none) B.pre w (List.mem_cons_of_mem _ h)
  have hown : s.vm.findClass RX9 = some m.cls := findClass_of_methodNamed B.named
  have hlocks := B.notSynchronized
  subst hsz
  have hD := hD0.self (sz := s.heap.size)
  generalize hAe : va_A [(ta, .inr (9, [.int 0, .int 0, .int (-1), .ref a3, .ref a4, .int 0, .int 0, .int 0, .int 0])), (a4, .inl (k 1, 1000, .inl fb))] s.heap.size = A at hD ⊢
  have hA : ∀ q : Nat, s.heap.size ≤ q → A q := fun q h => by rw [← hAe]; exact Or.inr h
  have hS : va_S A s.heap s.heap [] := va_S.rf
  have hl := lv_entry ([.ref ta, .int p0]) (n := 3) (Nat.le_of_ble_eq_true rfl)
  rw [lg_entry_eq]
  generalize (lg_sl ([.ref ta, .int p0]) ++ List.replicate (3 - (lg_sl ([.ref ta, .int p0])).length) Slot.unset).toArray = ls at hl ⊢
  have hl : lv_has ls 3 [(0, .ref ta), (1, .int p0)] := hl
  refine lv_bipush (v := 24) hx hb dX9_append_0 (by decide) ?_
  refine lv_istore_n (lv' := [(2, .int 24), (0, .ref ta), (1, .int p0)]) hx hb dX9_append_2 rfl hl (by decide) rfl (fun ls hl => ?_)
  refine lv_iload_n hx hb dX9_append_3 rfl (lv_at hl 0 rfl) ?_
  refine lv_if_lt (tgt := 46) hx hb dX9_append_4 (by decide) (fun c9 => absurd c9 (by decide)) (fun _ => ?_)
  refine lv_aload_n hx hb dX9_append_7 rfl (lv_at hl 1 rfl) ?_
  refine va_get (D := D) (ci := 9) (v := .int 0) (C := RX9) (T := TX9) (N := 9) hx hb hts iT_X9 hown hK hP 0 rfl rfl 0 (by decide) (hts _ tw_1_195) (fun _ h9 => h9) rfl dX9_append_8 ?_
  refine lv_sipush (v := 1000) hx hb dX9_append_11 (by decide) ?_
  refine lv_icmp_ge (tgt := 40) hx hb dX9_append_14 (by decide) (fun c9 => absurd c9 (by decide)) (fun _ => ?_)
  refine lv_aload_n hx hb dX9_append_17 rfl (lv_at hl 1 rfl) ?_
  refine va_get (D := D) (ci := 9) (v := .ref a4) (C := RX9) (T := TX9) (N := 9) hx hb hts iT_X9 hown hK hP 0 rfl rfl 4 (by decide) (hts _ tw_1_203) (fun _ h9 => h9) rfl dX9_append_18 ?_
  refine lv_aload_n hx hb dX9_append_21 rfl (lv_at hl 1 rfl) ?_
  refine va_get (D := D) (ci := 9) (v := .int 0) (C := RX9) (T := TX9) (N := 9) hx hb hts iT_X9 hown hK hP 0 rfl rfl 0 (by decide) (hts _ tw_1_195) (fun _ h9 => h9) rfl dX9_append_22 ?_
  refine lv_iload_n hx hb dX9_append_25 rfl (lv_at hl 2 rfl) ?_
  refine lv_iload_n hx hb dX9_append_26 rfl (lv_at hl 0 rfl) ?_
  refine lv_ishr hx hb dX9_append_27 ?_
  refine lv_topi (fun x_1 ex_1 => ?_)
  refine lv_i2b (v := x_1.toInt8.toInt32) hx hb dX9_append_28 rfl ?_
  refine va_bast hx hb hK hP hD hS 1 1 rfl rfl (z_in (by decide) (by decide)) dX9_append_29 (fun H locs hP hD hS => ?_)
  have hP : va_P D vwCl [(ta, .inr (9, [.int 0, .int 0, .int (-1), .ref a3, .ref a4, .int 0, .int 0, .int 0, .int 0])), (a4, .inl (k 1, 1000, .inl (upd fb 0 (vp_nar .byte x_1.toInt8.toInt32))))] H := hP
  have hD : va_D A [(ta, .inr (9, [.int 0, .int 0, .int (-1), .ref a3, .ref a4, .int 0, .int 0, .int 0, .int 0])), (a4, .inl (k 1, 1000, .inl (upd fb 0 (vp_nar .byte x_1.toInt8.toInt32))))] := hD
  refine lv_aload_n hx hb dX9_append_30 rfl (lv_at hl 1 rfl) ?_
  refine lv_dup hx hb dX9_append_31 rfl ?_
  refine va_get (D := D) (ci := 9) (v := .int 0) (C := RX9) (T := TX9) (N := 9) hx hb hts iT_X9 hown hK hP 0 rfl rfl 0 (by decide) (hts _ tw_1_195) (fun _ h9 => h9) rfl dX9_append_32 ?_
  refine lv_iconst (v := 1) hx hb dX9_append_35 (by decide) ?_
  refine lv_iadd hx hb dX9_append_36 ?_
  refine lv_topi (fun x_3 ex_3 => ?_)
  obtain rfl : x_3 = 1 := ex_3.trans (by decide)
  refine va_put (D := D) (ci := 9) (v := .int 1) (ty := tyX9 0) (C := RX9) (T := TX9) (N := 9) hx hb hts iT_X9 tyX9 tyX9_ok nmX9 hown hK hP hD hS 0 rfl rfl 0 (by decide) (hts _ tw_1_195) (fun _ h9 => h9) rfl (tyX9_ok 0 (by decide)) rfl rfl (Nat.le_of_ble_eq_true rfl) dX9_append_37 (fun H locs hP hD hS => ?_)
  have hP : va_P D vwCl [(ta, .inr (9, [.int 1, .int 0, .int (-1), .ref a3, .ref a4, .int 0, .int 0, .int 0, .int 0])), (a4, .inl (k 1, 1000, .inl (upd fb 0 (vp_nar .byte x_1.toInt8.toInt32))))] H := hP
  have hD : va_D A [(ta, .inr (9, [.int 1, .int 0, .int (-1), .ref a3, .ref a4, .int 0, .int 0, .int 0, .int 0])), (a4, .inl (k 1, 1000, .inl (upd fb 0 (vp_nar .byte x_1.toInt8.toInt32))))] := hD
  refine lv_iinc (v := 16) (lv' := [(2, .int 16), (0, .ref ta), (1, .int p0)]) hx hb dX9_append_40 hl (k := 0) rfl (by decide) (by decide) rfl (fun ls hl => ?_)
  refine lv_goto (tgt := 3) hx hb dX9_append_43 (by decide) ?_
  refine lv_iload_n hx hb dX9_append_3 rfl (lv_at hl 0 rfl) ?_
  refine lv_if_lt (tgt := 46) hx hb dX9_append_4 (by decide) (fun c9 => absurd c9 (by decide)) (fun _ => ?_)
  refine lv_aload_n hx hb dX9_append_7 rfl (lv_at hl 1 rfl) ?_
  refine va_get (D := D) (ci := 9) (v := .int 1) (C := RX9) (T := TX9) (N := 9) hx hb hts iT_X9 hown hK hP 0 rfl rfl 0 (by decide) (hts _ tw_1_195) (fun _ h9 => h9) rfl dX9_append_8 ?_
  refine lv_sipush (v := 1000) hx hb dX9_append_11 (by decide) ?_
  refine lv_icmp_ge (tgt := 40) hx hb dX9_append_14 (by decide) (fun c9 => absurd c9 (by decide)) (fun _ => ?_)
  refine lv_aload_n hx hb dX9_append_17 rfl (lv_at hl 1 rfl) ?_
  refine va_get (D := D) (ci := 9) (v := .ref a4) (C := RX9) (T := TX9) (N := 9) hx hb hts iT_X9 hown hK hP 0 rfl rfl 4 (by decide) (hts _ tw_1_203) (fun _ h9 => h9) rfl dX9_append_18 ?_
  refine lv_aload_n hx hb dX9_append_21 rfl (lv_at hl 1 rfl) ?_
  refine va_get (D := D) (ci := 9) (v := .int 1) (C := RX9) (T := TX9) (N := 9) hx hb hts iT_X9 hown hK hP 0 rfl rfl 0 (by decide) (hts _ tw_1_195) (fun _ h9 => h9) rfl dX9_append_22 ?_
  refine lv_iload_n hx hb dX9_append_25 rfl (lv_at hl 2 rfl) ?_
  refine lv_iload_n hx hb dX9_append_26 rfl (lv_at hl 0 rfl) ?_
  refine lv_ishr hx hb dX9_append_27 ?_
  refine lv_topi (fun x_5 ex_5 => ?_)
  refine lv_i2b (v := x_5.toInt8.toInt32) hx hb dX9_append_28 rfl ?_
  refine va_bast hx hb hK hP hD hS 1 1 rfl rfl (z_in (by decide) (by decide)) dX9_append_29 (fun H locs hP hD hS => ?_)
  have hP : va_P D vwCl [(ta, .inr (9, [.int 1, .int 0, .int (-1), .ref a3, .ref a4, .int 0, .int 0, .int 0, .int 0])), (a4, .inl (k 1, 1000, .inl (upd (upd fb 0 (vp_nar .byte x_1.toInt8.toInt32)) 1 (vp_nar .byte x_5.toInt8.toInt32))))] H := hP
  have hD : va_D A [(ta, .inr (9, [.int 1, .int 0, .int (-1), .ref a3, .ref a4, .int 0, .int 0, .int 0, .int 0])), (a4, .inl (k 1, 1000, .inl (upd (upd fb 0 (vp_nar .byte x_1.toInt8.toInt32)) 1 (vp_nar .byte x_5.toInt8.toInt32))))] := hD
  refine lv_aload_n hx hb dX9_append_30 rfl (lv_at hl 1 rfl) ?_
  refine lv_dup hx hb dX9_append_31 rfl ?_
  refine va_get (D := D) (ci := 9) (v := .int 1) (C := RX9) (T := TX9) (N := 9) hx hb hts iT_X9 hown hK hP 0 rfl rfl 0 (by decide) (hts _ tw_1_195) (fun _ h9 => h9) rfl dX9_append_32 ?_
  refine lv_iconst (v := 1) hx hb dX9_append_35 (by decide) ?_
  refine lv_iadd hx hb dX9_append_36 ?_
  refine lv_topi (fun x_7 ex_7 => ?_)
  obtain rfl : x_7 = 2 := ex_7.trans (by decide)
  refine va_put (D := D) (ci := 9) (v := .int 2) (ty := tyX9 0) (C := RX9) (T := TX9) (N := 9) hx hb hts iT_X9 tyX9 tyX9_ok nmX9 hown hK hP hD hS 0 rfl rfl 0 (by decide) (hts _ tw_1_195) (fun _ h9 => h9) rfl (tyX9_ok 0 (by decide)) rfl rfl (Nat.le_of_ble_eq_true rfl) dX9_append_37 (fun H locs hP hD hS => ?_)
  have hP : va_P D vwCl [(ta, .inr (9, [.int 2, .int 0, .int (-1), .ref a3, .ref a4, .int 0, .int 0, .int 0, .int 0])), (a4, .inl (k 1, 1000, .inl (upd (upd fb 0 (vp_nar .byte x_1.toInt8.toInt32)) 1 (vp_nar .byte x_5.toInt8.toInt32))))] H := hP
  have hD : va_D A [(ta, .inr (9, [.int 2, .int 0, .int (-1), .ref a3, .ref a4, .int 0, .int 0, .int 0, .int 0])), (a4, .inl (k 1, 1000, .inl (upd (upd fb 0 (vp_nar .byte x_1.toInt8.toInt32)) 1 (vp_nar .byte x_5.toInt8.toInt32))))] := hD
  refine lv_iinc (v := 8) (lv' := [(2, .int 8), (0, .ref ta), (1, .int p0)]) hx hb dX9_append_40 hl (k := 0) rfl (by decide) (by decide) rfl (fun ls hl => ?_)
  refine lv_goto (tgt := 3) hx hb dX9_append_43 (by decide) ?_
  refine lv_iload_n hx hb dX9_append_3 rfl (lv_at hl 0 rfl) ?_
  refine lv_if_lt (tgt := 46) hx hb dX9_append_4 (by decide) (fun c9 => absurd c9 (by decide)) (fun _ => ?_)
  refine lv_aload_n hx hb dX9_append_7 rfl (lv_at hl 1 rfl) ?_
  refine va_get (D := D) (ci := 9) (v := .int 2) (C := RX9) (T := TX9) (N := 9) hx hb hts iT_X9 hown hK hP 0 rfl rfl 0 (by decide) (hts _ tw_1_195) (fun _ h9 => h9) rfl dX9_append_8 ?_
  refine lv_sipush (v := 1000) hx hb dX9_append_11 (by decide) ?_
  refine lv_icmp_ge (tgt := 40) hx hb dX9_append_14 (by decide) (fun c9 => absurd c9 (by decide)) (fun _ => ?_)
  refine lv_aload_n hx hb dX9_append_17 rfl (lv_at hl 1 rfl) ?_
  refine va_get (D := D) (ci := 9) (v := .ref a4) (C := RX9) (T := TX9) (N := 9) hx hb hts iT_X9 hown hK hP 0 rfl rfl 4 (by decide) (hts _ tw_1_203) (fun _ h9 => h9) rfl dX9_append_18 ?_
  refine lv_aload_n hx hb dX9_append_21 rfl (lv_at hl 1 rfl) ?_
  refine va_get (D := D) (ci := 9) (v := .int 2) (C := RX9) (T := TX9) (N := 9) hx hb hts iT_X9 hown hK hP 0 rfl rfl 0 (by decide) (hts _ tw_1_195) (fun _ h9 => h9) rfl dX9_append_22 ?_
  refine lv_iload_n hx hb dX9_append_25 rfl (lv_at hl 2 rfl) ?_
  refine lv_iload_n hx hb dX9_append_26 rfl (lv_at hl 0 rfl) ?_
  refine lv_ishr hx hb dX9_append_27 ?_
  refine lv_topi (fun x_9 ex_9 => ?_)
  refine lv_i2b (v := x_9.toInt8.toInt32) hx hb dX9_append_28 rfl ?_
  refine va_bast hx hb hK hP hD hS 1 1 rfl rfl (z_in (by decide) (by decide)) dX9_append_29 (fun H locs hP hD hS => ?_)
  have hP : va_P D vwCl [(ta, .inr (9, [.int 2, .int 0, .int (-1), .ref a3, .ref a4, .int 0, .int 0, .int 0, .int 0])), (a4, .inl (k 1, 1000, .inl (upd (upd (upd fb 0 (vp_nar .byte x_1.toInt8.toInt32)) 1 (vp_nar .byte x_5.toInt8.toInt32)) 2 (vp_nar .byte x_9.toInt8.toInt32))))] H := hP
  have hD : va_D A [(ta, .inr (9, [.int 2, .int 0, .int (-1), .ref a3, .ref a4, .int 0, .int 0, .int 0, .int 0])), (a4, .inl (k 1, 1000, .inl (upd (upd (upd fb 0 (vp_nar .byte x_1.toInt8.toInt32)) 1 (vp_nar .byte x_5.toInt8.toInt32)) 2 (vp_nar .byte x_9.toInt8.toInt32))))] := hD
  refine lv_aload_n hx hb dX9_append_30 rfl (lv_at hl 1 rfl) ?_
  refine lv_dup hx hb dX9_append_31 rfl ?_
  refine va_get (D := D) (ci := 9) (v := .int 2) (C := RX9) (T := TX9) (N := 9) hx hb hts iT_X9 hown hK hP 0 rfl rfl 0 (by decide) (hts _ tw_1_195) (fun _ h9 => h9) rfl dX9_append_32 ?_
  refine lv_iconst (v := 1) hx hb dX9_append_35 (by decide) ?_
  refine lv_iadd hx hb dX9_append_36 ?_
  refine lv_topi (fun x_11 ex_11 => ?_)
  obtain rfl : x_11 = 3 := ex_11.trans (by decide)
  refine va_put (D := D) (ci := 9) (v := .int 3) (ty := tyX9 0) (C := RX9) (T := TX9) (N := 9) hx hb hts iT_X9 tyX9 tyX9_ok nmX9 hown hK hP hD hS 0 rfl rfl 0 (by decide) (hts _ tw_1_195) (fun _ h9 => h9) rfl (tyX9_ok 0 (by decide)) rfl rfl (Nat.le_of_ble_eq_true rfl) dX9_append_37 (fun H locs hP hD hS => ?_)
  have hP : va_P D vwCl [(ta, .inr (9, [.int 3, .int 0, .int (-1), .ref a3, .ref a4, .int 0, .int 0, .int 0, .int 0])), (a4, .inl (k 1, 1000, .inl (upd (upd (upd fb 0 (vp_nar .byte x_1.toInt8.toInt32)) 1 (vp_nar .byte x_5.toInt8.toInt32)) 2 (vp_nar .byte x_9.toInt8.toInt32))))] H := hP
  have hD : va_D A [(ta, .inr (9, [.int 3, .int 0, .int (-1), .ref a3, .ref a4, .int 0, .int 0, .int 0, .int 0])), (a4, .inl (k 1, 1000, .inl (upd (upd (upd fb 0 (vp_nar .byte x_1.toInt8.toInt32)) 1 (vp_nar .byte x_5.toInt8.toInt32)) 2 (vp_nar .byte x_9.toInt8.toInt32))))] := hD
  refine lv_iinc (v := 0) (lv' := [(2, .int 0), (0, .ref ta), (1, .int p0)]) hx hb dX9_append_40 hl (k := 0) rfl (by decide) (by decide) rfl (fun ls hl => ?_)
  refine lv_goto (tgt := 3) hx hb dX9_append_43 (by decide) ?_
  refine lv_iload_n hx hb dX9_append_3 rfl (lv_at hl 0 rfl) ?_
  refine lv_if_lt (tgt := 46) hx hb dX9_append_4 (by decide) (fun c9 => absurd c9 (by decide)) (fun _ => ?_)
  refine lv_aload_n hx hb dX9_append_7 rfl (lv_at hl 1 rfl) ?_
  refine va_get (D := D) (ci := 9) (v := .int 3) (C := RX9) (T := TX9) (N := 9) hx hb hts iT_X9 hown hK hP 0 rfl rfl 0 (by decide) (hts _ tw_1_195) (fun _ h9 => h9) rfl dX9_append_8 ?_
  refine lv_sipush (v := 1000) hx hb dX9_append_11 (by decide) ?_
  refine lv_icmp_ge (tgt := 40) hx hb dX9_append_14 (by decide) (fun c9 => absurd c9 (by decide)) (fun _ => ?_)
  refine lv_aload_n hx hb dX9_append_17 rfl (lv_at hl 1 rfl) ?_
  refine va_get (D := D) (ci := 9) (v := .ref a4) (C := RX9) (T := TX9) (N := 9) hx hb hts iT_X9 hown hK hP 0 rfl rfl 4 (by decide) (hts _ tw_1_203) (fun _ h9 => h9) rfl dX9_append_18 ?_
  refine lv_aload_n hx hb dX9_append_21 rfl (lv_at hl 1 rfl) ?_
  refine va_get (D := D) (ci := 9) (v := .int 3) (C := RX9) (T := TX9) (N := 9) hx hb hts iT_X9 hown hK hP 0 rfl rfl 0 (by decide) (hts _ tw_1_195) (fun _ h9 => h9) rfl dX9_append_22 ?_
  refine lv_iload_n hx hb dX9_append_25 rfl (lv_at hl 2 rfl) ?_
  refine lv_iload_n hx hb dX9_append_26 rfl (lv_at hl 0 rfl) ?_
  refine lv_ishr hx hb dX9_append_27 ?_
  refine lv_topi (fun x_13 ex_13 => ?_)
  refine lv_i2b (v := x_13.toInt8.toInt32) hx hb dX9_append_28 rfl ?_
  refine va_bast hx hb hK hP hD hS 1 1 rfl rfl (z_in (by decide) (by decide)) dX9_append_29 (fun H locs hP hD hS => ?_)
  have hP : va_P D vwCl [(ta, .inr (9, [.int 3, .int 0, .int (-1), .ref a3, .ref a4, .int 0, .int 0, .int 0, .int 0])), (a4, .inl (k 1, 1000, .inl (upd (upd (upd (upd fb 0 (vp_nar .byte x_1.toInt8.toInt32)) 1 (vp_nar .byte x_5.toInt8.toInt32)) 2 (vp_nar .byte x_9.toInt8.toInt32)) 3 (vp_nar .byte x_13.toInt8.toInt32))))] H := hP
  have hD : va_D A [(ta, .inr (9, [.int 3, .int 0, .int (-1), .ref a3, .ref a4, .int 0, .int 0, .int 0, .int 0])), (a4, .inl (k 1, 1000, .inl (upd (upd (upd (upd fb 0 (vp_nar .byte x_1.toInt8.toInt32)) 1 (vp_nar .byte x_5.toInt8.toInt32)) 2 (vp_nar .byte x_9.toInt8.toInt32)) 3 (vp_nar .byte x_13.toInt8.toInt32))))] := hD
  refine lv_aload_n hx hb dX9_append_30 rfl (lv_at hl 1 rfl) ?_
  refine lv_dup hx hb dX9_append_31 rfl ?_
  refine va_get (D := D) (ci := 9) (v := .int 3) (C := RX9) (T := TX9) (N := 9) hx hb hts iT_X9 hown hK hP 0 rfl rfl 0 (by decide) (hts _ tw_1_195) (fun _ h9 => h9) rfl dX9_append_32 ?_
  refine lv_iconst (v := 1) hx hb dX9_append_35 (by decide) ?_
  refine lv_iadd hx hb dX9_append_36 ?_
  refine lv_topi (fun x_15 ex_15 => ?_)
  obtain rfl : x_15 = 4 := ex_15.trans (by decide)
  refine va_put (D := D) (ci := 9) (v := .int 4) (ty := tyX9 0) (C := RX9) (T := TX9) (N := 9) hx hb hts iT_X9 tyX9 tyX9_ok nmX9 hown hK hP hD hS 0 rfl rfl 0 (by decide) (hts _ tw_1_195) (fun _ h9 => h9) rfl (tyX9_ok 0 (by decide)) rfl rfl (Nat.le_of_ble_eq_true rfl) dX9_append_37 (fun H locs hP hD hS => ?_)
  have hP : va_P D vwCl [(ta, .inr (9, [.int 4, .int 0, .int (-1), .ref a3, .ref a4, .int 0, .int 0, .int 0, .int 0])), (a4, .inl (k 1, 1000, .inl (upd (upd (upd (upd fb 0 (vp_nar .byte x_1.toInt8.toInt32)) 1 (vp_nar .byte x_5.toInt8.toInt32)) 2 (vp_nar .byte x_9.toInt8.toInt32)) 3 (vp_nar .byte x_13.toInt8.toInt32))))] H := hP
  have hD : va_D A [(ta, .inr (9, [.int 4, .int 0, .int (-1), .ref a3, .ref a4, .int 0, .int 0, .int 0, .int 0])), (a4, .inl (k 1, 1000, .inl (upd (upd (upd (upd fb 0 (vp_nar .byte x_1.toInt8.toInt32)) 1 (vp_nar .byte x_5.toInt8.toInt32)) 2 (vp_nar .byte x_9.toInt8.toInt32)) 3 (vp_nar .byte x_13.toInt8.toInt32))))] := hD
  refine lv_iinc (v := (-8)) (lv' := [(2, .int (-8)), (0, .ref ta), (1, .int p0)]) hx hb dX9_append_40 hl (k := 0) rfl (by decide) (by decide) rfl (fun ls hl => ?_)
  refine lv_goto (tgt := 3) hx hb dX9_append_43 (by decide) ?_
  refine lv_iload_n hx hb dX9_append_3 rfl (lv_at hl 0 rfl) ?_
  refine lv_if_lt (tgt := 46) hx hb dX9_append_4 (by decide) (fun _ => ?_) (fun c9 => absurd c9 (by decide))
  have hP9 := hP.sub (ws' := [(ta, .inr (9, [.int 4, .int 0, .int (-1), .ref a3, .ref a4, .int 0, .int 0, .int 0, .int 0])), (a4, .inl (k 1, 1000, .inl (upd (upd (upd (upd fb 0 (vp_nar .byte x_1.toInt8.toInt32)) 1 (vp_nar .byte x_5.toInt8.toInt32)) 2 (vp_nar .byte x_9.toInt8.toInt32)) 3 (vp_nar .byte x_13.toInt8.toInt32))))]) [0, 1] rfl
  have hD9 := hD.sub (ws' := [(ta, .inr (9, [.int 4, .int 0, .int (-1), .ref a3, .ref a4, .int 0, .int 0, .int 0, .int 0])), (a4, .inl (k 1, 1000, .inl (upd (upd (upd (upd fb 0 (vp_nar .byte x_1.toInt8.toInt32)) 1 (vp_nar .byte x_5.toInt8.toInt32)) 2 (vp_nar .byte x_9.toInt8.toInt32)) 3 (vp_nar .byte x_13.toInt8.toInt32))))]) [0, 1] (by decide) rfl
  exact W.vret hx hb hr (fun tZ ht hW => ⟨⟨upd (upd (upd (upd fb 0 (vp_nar .byte x_1.toInt8.toInt32)) 1 (vp_nar .byte x_5.toInt8.toInt32)) 2 (vp_nar .byte x_9.toInt8.toInt32)) 3 (vp_nar .byte x_13.toInt8.toInt32), rfl, trivial, by rw [ht]; exact hP9, va_K.moved hW.alike hK, hD9⟩, hS.F ht⟩) hS.2.2 dX9_append_46
set_option maxHeartbeats 4000000 in
set_option maxRecDepth 100000 in
theorem c_X9_append_4 (l : Launch) (D : va_G) (k : Nat → ClassId) (ta : Nat) (a3 : Nat) (a4 : Nat) (fb : Nat → Int32) (p0 : Int32) (sz : Nat) : Met l yX9_append (ww yX9_append cX9_append 3 none) ({ frames := 0, cells := 0, slots := 0, locals := 0 }) (Pre0 D k [(ta, .inr (9, [.int 4, .int 0, .int (-1), .ref a3, .ref a4, .int 0, .int 0, .int 0, .int 0])), (a4, .inl (k 1, 1000, .inl fb))] sz [.ref ta, .int p0]) (va_Qv (fun (f2 : (Nat → Int32)) => True) (fun (f2 : (Nat → Int32)) tZ => Bw D k (va_A [(ta, .inr (9, [.int 4, .int 0, .int (-1), .ref a3, .ref a4, .int 0, .int 0, .int 0, .int 0])), (a4, .inl (k 1, 1000, .inl fb))] sz) [(ta, .inr (9, [.int 8, .int 0, .int (-1), .ref a3, .ref a4, .int 0, .int 0, .int 0, .int 0])), (a4, .inl (k 1, 1000, .inl f2))] tZ) (va_A [(ta, .inr (9, [.int 4, .int 0, .int (-1), .ref a3, .ref a4, .int 0, .int 0, .int 0, .int 0])), (a4, .inl (k 1, 1000, .inl fb))] sz)) 0 0 (va_A [(ta, .inr (9, [.int 4, .int 0, .int (-1), .ref a3, .ref a4, .int 0, .int 0, .int 0, .int 0])), (a4, .inl (k 1, 1000, .inl fb))] sz) := by
  refine Met.ofW (cc := cX9_append) (maxL := 3) (ret := none) (by decide +kernel) rfl ?_
  intro p e s m args below meth c s₁ B hml hv
  obtain ⟨rfl, hsz, hP, hK, hD0, hN⟩ := hv
  have hx := B.exec
  have hb := B.bytes
  have hr := B.returns
  have hts : ∀ w ∈ TT, w.before _ s = true := fun w h => atoms_spec (ws := ww yX9_append cX9_append 3 none) B.pre w (List.mem_cons_of_mem _ h)
  have hown : s.vm.findClass RX9 = some m.cls := findClass_of_methodNamed B.named
  have hlocks := B.notSynchronized
  subst hsz
  have hD := hD0.self (sz := s.heap.size)
  generalize hAe : va_A [(ta, .inr (9, [.int 4, .int 0, .int (-1), .ref a3, .ref a4, .int 0, .int 0, .int 0, .int 0])), (a4, .inl (k 1, 1000, .inl fb))] s.heap.size = A at hD ⊢
  have hA : ∀ q : Nat, s.heap.size ≤ q → A q := fun q h => by rw [← hAe]; exact Or.inr h
  have hS : va_S A s.heap s.heap [] := va_S.rf
  have hl := lv_entry ([.ref ta, .int p0]) (n := 3) (Nat.le_of_ble_eq_true rfl)
  rw [lg_entry_eq]
  generalize (lg_sl ([.ref ta, .int p0]) ++ List.replicate (3 - (lg_sl ([.ref ta, .int p0])).length) Slot.unset).toArray = ls at hl ⊢
  have hl : lv_has ls 3 [(0, .ref ta), (1, .int p0)] := hl
  refine lv_bipush (v := 24) hx hb dX9_append_0 (by decide) ?_
  refine lv_istore_n (lv' := [(2, .int 24), (0, .ref ta), (1, .int p0)]) hx hb dX9_append_2 rfl hl (by decide) rfl (fun ls hl => ?_)
  refine lv_iload_n hx hb dX9_append_3 rfl (lv_at hl 0 rfl) ?_
  refine lv_if_lt (tgt := 46) hx hb dX9_append_4 (by decide) (fun c9 => absurd c9 (by decide)) (fun _ => ?_)
  refine lv_aload_n hx hb dX9_append_7 rfl (lv_at hl 1 rfl) ?_
  refine va_get (D := D) (ci := 9) (v := .int 4) (C := RX9) (T := TX9) (N := 9) hx hb hts iT_X9 hown hK hP 0 rfl rfl 0 (by decide) (hts _ tw_1_195) (fun _ h9 => h9) rfl dX9_append_8 ?_
  refine lv_sipush (v := 1000) hx hb dX9_append_11 (by decide) ?_
  refine lv_icmp_ge (tgt := 40) hx hb dX9_append_14 (by decide) (fun c9 => absurd c9 (by decide)) (fun _ => ?_)
  refine lv_aload_n hx hb dX9_append_17 rfl (lv_at hl 1 rfl) ?_
  refine va_get (D := D) (ci := 9) (v := .ref a4) (C := RX9) (T := TX9) (N := 9) hx hb hts iT_X9 hown hK hP 0 rfl rfl 4 (by decide) (hts _ tw_1_203) (fun _ h9 => h9) rfl dX9_append_18 ?_
  refine lv_aload_n hx hb dX9_append_21 rfl (lv_at hl 1 rfl) ?_
  refine va_get (D := D) (ci := 9) (v := .int 4) (C := RX9) (T := TX9) (N := 9) hx hb hts iT_X9 hown hK hP 0 rfl rfl 0 (by decide) (hts _ tw_1_195) (fun _ h9 => h9) rfl dX9_append_22 ?_
  refine lv_iload_n hx hb dX9_append_25 rfl (lv_at hl 2 rfl) ?_
  refine lv_iload_n hx hb dX9_append_26 rfl (lv_at hl 0 rfl) ?_
  refine lv_ishr hx hb dX9_append_27 ?_
  refine lv_topi (fun x_1 ex_1 => ?_)
  refine lv_i2b (v := x_1.toInt8.toInt32) hx hb dX9_append_28 rfl ?_
  refine va_bast hx hb hK hP hD hS 1 1 rfl rfl (z_in (by decide) (by decide)) dX9_append_29 (fun H locs hP hD hS => ?_)
  have hP : va_P D vwCl [(ta, .inr (9, [.int 4, .int 0, .int (-1), .ref a3, .ref a4, .int 0, .int 0, .int 0, .int 0])), (a4, .inl (k 1, 1000, .inl (upd fb 4 (vp_nar .byte x_1.toInt8.toInt32))))] H := hP
  have hD : va_D A [(ta, .inr (9, [.int 4, .int 0, .int (-1), .ref a3, .ref a4, .int 0, .int 0, .int 0, .int 0])), (a4, .inl (k 1, 1000, .inl (upd fb 4 (vp_nar .byte x_1.toInt8.toInt32))))] := hD
  refine lv_aload_n hx hb dX9_append_30 rfl (lv_at hl 1 rfl) ?_
  refine lv_dup hx hb dX9_append_31 rfl ?_
  refine va_get (D := D) (ci := 9) (v := .int 4) (C := RX9) (T := TX9) (N := 9) hx hb hts iT_X9 hown hK hP 0 rfl rfl 0 (by decide) (hts _ tw_1_195) (fun _ h9 => h9) rfl dX9_append_32 ?_
  refine lv_iconst (v := 1) hx hb dX9_append_35 (by decide) ?_
  refine lv_iadd hx hb dX9_append_36 ?_
  refine lv_topi (fun x_3 ex_3 => ?_)
  obtain rfl : x_3 = 5 := ex_3.trans (by decide)
  refine va_put (D := D) (ci := 9) (v := .int 5) (ty := tyX9 0) (C := RX9) (T := TX9) (N := 9) hx hb hts iT_X9 tyX9 tyX9_ok nmX9 hown hK hP hD hS 0 rfl rfl 0 (by decide) (hts _ tw_1_195) (fun _ h9 => h9) rfl (tyX9_ok 0 (by decide)) rfl rfl (Nat.le_of_ble_eq_true rfl) dX9_append_37 (fun H locs hP hD hS => ?_)
  have hP : va_P D vwCl [(ta, .inr (9, [.int 5, .int 0, .int (-1), .ref a3, .ref a4, .int 0, .int 0, .int 0, .int 0])), (a4, .inl (k 1, 1000, .inl (upd fb 4 (vp_nar .byte x_1.toInt8.toInt32))))] H := hP
  have hD : va_D A [(ta, .inr (9, [.int 5, .int 0, .int (-1), .ref a3, .ref a4, .int 0, .int 0, .int 0, .int 0])), (a4, .inl (k 1, 1000, .inl (upd fb 4 (vp_nar .byte x_1.toInt8.toInt32))))] := hD
  refine lv_iinc (v := 16) (lv' := [(2, .int 16), (0, .ref ta), (1, .int p0)]) hx hb dX9_append_40 hl (k := 0) rfl (by decide) (by decide) rfl (fun ls hl => ?_)
  refine lv_goto (tgt := 3) hx hb dX9_append_43 (by decide) ?_
  refine lv_iload_n hx hb dX9_append_3 rfl (lv_at hl 0 rfl) ?_
  refine lv_if_lt (tgt := 46) hx hb dX9_append_4 (by decide) (fun c9 => absurd c9 (by decide)) (fun _ => ?_)
  refine lv_aload_n hx hb dX9_append_7 rfl (lv_at hl 1 rfl) ?_
  refine va_get (D := D) (ci := 9) (v := .int 5) (C := RX9) (T := TX9) (N := 9) hx hb hts iT_X9 hown hK hP 0 rfl rfl 0 (by decide) (hts _ tw_1_195) (fun _ h9 => h9) rfl dX9_append_8 ?_
  refine lv_sipush (v := 1000) hx hb dX9_append_11 (by decide) ?_
  refine lv_icmp_ge (tgt := 40) hx hb dX9_append_14 (by decide) (fun c9 => absurd c9 (by decide)) (fun _ => ?_)
  refine lv_aload_n hx hb dX9_append_17 rfl (lv_at hl 1 rfl) ?_
  refine va_get (D := D) (ci := 9) (v := .ref a4) (C := RX9) (T := TX9) (N := 9) hx hb hts iT_X9 hown hK hP 0 rfl rfl 4 (by decide) (hts _ tw_1_203) (fun _ h9 => h9) rfl dX9_append_18 ?_
  refine lv_aload_n hx hb dX9_append_21 rfl (lv_at hl 1 rfl) ?_
  refine va_get (D := D) (ci := 9) (v := .int 5) (C := RX9) (T := TX9) (N := 9) hx hb hts iT_X9 hown hK hP 0 rfl rfl 0 (by decide) (hts _ tw_1_195) (fun _ h9 => h9) rfl dX9_append_22 ?_
  refine lv_iload_n hx hb dX9_append_25 rfl (lv_at hl 2 rfl) ?_
  refine lv_iload_n hx hb dX9_append_26 rfl (lv_at hl 0 rfl) ?_
  refine lv_ishr hx hb dX9_append_27 ?_
  refine lv_topi (fun x_5 ex_5 => ?_)
  refine lv_i2b (v := x_5.toInt8.toInt32) hx hb dX9_append_28 rfl ?_
  refine va_bast hx hb hK hP hD hS 1 1 rfl rfl (z_in (by decide) (by decide)) dX9_append_29 (fun H locs hP hD hS => ?_)
  have hP : va_P D vwCl [(ta, .inr (9, [.int 5, .int 0, .int (-1), .ref a3, .ref a4, .int 0, .int 0, .int 0, .int 0])), (a4, .inl (k 1, 1000, .inl (upd (upd fb 4 (vp_nar .byte x_1.toInt8.toInt32)) 5 (vp_nar .byte x_5.toInt8.toInt32))))] H := hP
  have hD : va_D A [(ta, .inr (9, [.int 5, .int 0, .int (-1), .ref a3, .ref a4, .int 0, .int 0, .int 0, .int 0])), (a4, .inl (k 1, 1000, .inl (upd (upd fb 4 (vp_nar .byte x_1.toInt8.toInt32)) 5 (vp_nar .byte x_5.toInt8.toInt32))))] := hD
  refine lv_aload_n hx hb dX9_append_30 rfl (lv_at hl 1 rfl) ?_
  refine lv_dup hx hb dX9_append_31 rfl ?_
  refine va_get (D := D) (ci := 9) (v := .int 5) (C := RX9) (T := TX9) (N := 9) hx hb hts iT_X9 hown hK hP 0 rfl rfl 0 (by decide) (hts _ tw_1_195) (fun _ h9 => h9) rfl dX9_append_32 ?_
  refine lv_iconst (v := 1) hx hb dX9_append_35 (by decide) ?_
  refine lv_iadd hx hb dX9_append_36 ?_
  refine lv_topi (fun x_7 ex_7 => ?_)
  obtain rfl : x_7 = 6 := ex_7.trans (by decide)
  refine va_put (D := D) (ci := 9) (v := .int 6) (ty := tyX9 0) (C := RX9) (T := TX9) (N := 9) hx hb hts iT_X9 tyX9 tyX9_ok nmX9 hown hK hP hD hS 0 rfl rfl 0 (by decide) (hts _ tw_1_195) (fun _ h9 => h9) rfl (tyX9_ok 0 (by decide)) rfl rfl (Nat.le_of_ble_eq_true rfl) dX9_append_37 (fun H locs hP hD hS => ?_)
  have hP : va_P D vwCl [(ta, .inr (9, [.int 6, .int 0, .int (-1), .ref a3, .ref a4, .int 0, .int 0, .int 0, .int 0])), (a4, .inl (k 1, 1000, .inl (upd (upd fb 4 (vp_nar .byte x_1.toInt8.toInt32)) 5 (vp_nar .byte x_5.toInt8.toInt32))))] H := hP
  have hD : va_D A [(ta, .inr (9, [.int 6, .int 0, .int (-1), .ref a3, .ref a4, .int 0, .int 0, .int 0, .int 0])), (a4, .inl (k 1, 1000, .inl (upd (upd fb 4 (vp_nar .byte x_1.toInt8.toInt32)) 5 (vp_nar .byte x_5.toInt8.toInt32))))] := hD
  refine lv_iinc (v := 8) (lv' := [(2, .int 8), (0, .ref ta), (1, .int p0)]) hx hb dX9_append_40 hl (k := 0) rfl (by decide) (by decide) rfl (fun ls hl => ?_)
  refine lv_goto (tgt := 3) hx hb dX9_append_43 (by decide) ?_
  refine lv_iload_n hx hb dX9_append_3 rfl (lv_at hl 0 rfl) ?_
  refine lv_if_lt (tgt := 46) hx hb dX9_append_4 (by decide) (fun c9 => absurd c9 (by decide)) (fun _ => ?_)
  refine lv_aload_n hx hb dX9_append_7 rfl (lv_at hl 1 rfl) ?_
  refine va_get (D := D) (ci := 9) (v := .int 6) (C := RX9) (T := TX9) (N := 9) hx hb hts iT_X9 hown hK hP 0 rfl rfl 0 (by decide) (hts _ tw_1_195) (fun _ h9 => h9) rfl dX9_append_8 ?_
  refine lv_sipush (v := 1000) hx hb dX9_append_11 (by decide) ?_
  refine lv_icmp_ge (tgt := 40) hx hb dX9_append_14 (by decide) (fun c9 => absurd c9 (by decide)) (fun _ => ?_)
  refine lv_aload_n hx hb dX9_append_17 rfl (lv_at hl 1 rfl) ?_
  refine va_get (D := D) (ci := 9) (v := .ref a4) (C := RX9) (T := TX9) (N := 9) hx hb hts iT_X9 hown hK hP 0 rfl rfl 4 (by decide) (hts _ tw_1_203) (fun _ h9 => h9) rfl dX9_append_18 ?_
  refine lv_aload_n hx hb dX9_append_21 rfl (lv_at hl 1 rfl) ?_
  refine va_get (D := D) (ci := 9) (v := .int 6) (C := RX9) (T := TX9) (N := 9) hx hb hts iT_X9 hown hK hP 0 rfl rfl 0 (by decide) (hts _ tw_1_195) (fun _ h9 => h9) rfl dX9_append_22 ?_
  refine lv_iload_n hx hb dX9_append_25 rfl (lv_at hl 2 rfl) ?_
  refine lv_iload_n hx hb dX9_append_26 rfl (lv_at hl 0 rfl) ?_
  refine lv_ishr hx hb dX9_append_27 ?_
  refine lv_topi (fun x_9 ex_9 => ?_)
  refine lv_i2b (v := x_9.toInt8.toInt32) hx hb dX9_append_28 rfl ?_
  refine va_bast hx hb hK hP hD hS 1 1 rfl rfl (z_in (by decide) (by decide)) dX9_append_29 (fun H locs hP hD hS => ?_)
  have hP : va_P D vwCl [(ta, .inr (9, [.int 6, .int 0, .int (-1), .ref a3, .ref a4, .int 0, .int 0, .int 0, .int 0])), (a4, .inl (k 1, 1000, .inl (upd (upd (upd fb 4 (vp_nar .byte x_1.toInt8.toInt32)) 5 (vp_nar .byte x_5.toInt8.toInt32)) 6 (vp_nar .byte x_9.toInt8.toInt32))))] H := hP
  have hD : va_D A [(ta, .inr (9, [.int 6, .int 0, .int (-1), .ref a3, .ref a4, .int 0, .int 0, .int 0, .int 0])), (a4, .inl (k 1, 1000, .inl (upd (upd (upd fb 4 (vp_nar .byte x_1.toInt8.toInt32)) 5 (vp_nar .byte x_5.toInt8.toInt32)) 6 (vp_nar .byte x_9.toInt8.toInt32))))] := hD
  refine lv_aload_n hx hb dX9_append_30 rfl (lv_at hl 1 rfl) ?_
  refine lv_dup hx hb dX9_append_31 rfl ?_
  refine va_get (D := D) (ci := 9) (v := .int 6) (C := RX9) (T := TX9) (N := 9) hx hb hts iT_X9 hown hK hP 0 rfl rfl 0 (by decide) (hts _ tw_1_195) (fun _ h9 => h9) rfl dX9_append_32 ?_
  refine lv_iconst (v := 1) hx hb dX9_append_35 (by decide) ?_
  refine lv_iadd hx hb dX9_append_36 ?_
  refine lv_topi (fun x_11 ex_11 => ?_)
  obtain rfl : x_11 = 7 := ex_11.trans (by decide)
  refine va_put (D := D) (ci := 9) (v := .int 7) (ty := tyX9 0) (C := RX9) (T := TX9) (N := 9) hx hb hts iT_X9 tyX9 tyX9_ok nmX9 hown hK hP hD hS 0 rfl rfl 0 (by decide) (hts _ tw_1_195) (fun _ h9 => h9) rfl (tyX9_ok 0 (by decide)) rfl rfl (Nat.le_of_ble_eq_true rfl) dX9_append_37 (fun H locs hP hD hS => ?_)
  have hP : va_P D vwCl [(ta, .inr (9, [.int 7, .int 0, .int (-1), .ref a3, .ref a4, .int 0, .int 0, .int 0, .int 0])), (a4, .inl (k 1, 1000, .inl (upd (upd (upd fb 4 (vp_nar .byte x_1.toInt8.toInt32)) 5 (vp_nar .byte x_5.toInt8.toInt32)) 6 (vp_nar .byte x_9.toInt8.toInt32))))] H := hP
  have hD : va_D A [(ta, .inr (9, [.int 7, .int 0, .int (-1), .ref a3, .ref a4, .int 0, .int 0, .int 0, .int 0])), (a4, .inl (k 1, 1000, .inl (upd (upd (upd fb 4 (vp_nar .byte x_1.toInt8.toInt32)) 5 (vp_nar .byte x_5.toInt8.toInt32)) 6 (vp_nar .byte x_9.toInt8.toInt32))))] := hD
  refine lv_iinc (v := 0) (lv' := [(2, .int 0), (0, .ref ta), (1, .int p0)]) hx hb dX9_append_40 hl (k := 0) rfl (by decide) (by decide) rfl (fun ls hl => ?_)
  refine lv_goto (tgt := 3) hx hb dX9_append_43 (by decide) ?_
  refine lv_iload_n hx hb dX9_append_3 rfl (lv_at hl 0 rfl) ?_
  refine lv_if_lt (tgt := 46) hx hb dX9_append_4 (by decide) (fun c9 => absurd c9 (by decide)) (fun _ => ?_)
  refine lv_aload_n hx hb dX9_append_7 rfl (lv_at hl 1 rfl) ?_
  refine va_get (D := D) (ci := 9) (v := .int 7) (C := RX9) (T := TX9) (N := 9) hx hb hts iT_X9 hown hK hP 0 rfl rfl 0 (by decide) (hts _ tw_1_195) (fun _ h9 => h9) rfl dX9_append_8 ?_
  refine lv_sipush (v := 1000) hx hb dX9_append_11 (by decide) ?_
  refine lv_icmp_ge (tgt := 40) hx hb dX9_append_14 (by decide) (fun c9 => absurd c9 (by decide)) (fun _ => ?_)
  refine lv_aload_n hx hb dX9_append_17 rfl (lv_at hl 1 rfl) ?_
  refine va_get (D := D) (ci := 9) (v := .ref a4) (C := RX9) (T := TX9) (N := 9) hx hb hts iT_X9 hown hK hP 0 rfl rfl 4 (by decide) (hts _ tw_1_203) (fun _ h9 => h9) rfl dX9_append_18 ?_
  refine lv_aload_n hx hb dX9_append_21 rfl (lv_at hl 1 rfl) ?_
  refine va_get (D := D) (ci := 9) (v := .int 7) (C := RX9) (T := TX9) (N := 9) hx hb hts iT_X9 hown hK hP 0 rfl rfl 0 (by decide) (hts _ tw_1_195) (fun _ h9 => h9) rfl dX9_append_22 ?_
  refine lv_iload_n hx hb dX9_append_25 rfl (lv_at hl 2 rfl) ?_
  refine lv_iload_n hx hb dX9_append_26 rfl (lv_at hl 0 rfl) ?_
  refine lv_ishr hx hb dX9_append_27 ?_
  refine lv_topi (fun x_13 ex_13 => ?_)
  refine lv_i2b (v := x_13.toInt8.toInt32) hx hb dX9_append_28 rfl ?_
  refine va_bast hx hb hK hP hD hS 1 1 rfl rfl (z_in (by decide) (by decide)) dX9_append_29 (fun H locs hP hD hS => ?_)
  have hP : va_P D vwCl [(ta, .inr (9, [.int 7, .int 0, .int (-1), .ref a3, .ref a4, .int 0, .int 0, .int 0, .int 0])), (a4, .inl (k 1, 1000, .inl (upd (upd (upd (upd fb 4 (vp_nar .byte x_1.toInt8.toInt32)) 5 (vp_nar .byte x_5.toInt8.toInt32)) 6 (vp_nar .byte x_9.toInt8.toInt32)) 7 (vp_nar .byte x_13.toInt8.toInt32))))] H := hP
  have hD : va_D A [(ta, .inr (9, [.int 7, .int 0, .int (-1), .ref a3, .ref a4, .int 0, .int 0, .int 0, .int 0])), (a4, .inl (k 1, 1000, .inl (upd (upd (upd (upd fb 4 (vp_nar .byte x_1.toInt8.toInt32)) 5 (vp_nar .byte x_5.toInt8.toInt32)) 6 (vp_nar .byte x_9.toInt8.toInt32)) 7 (vp_nar .byte x_13.toInt8.toInt32))))] := hD
  refine lv_aload_n hx hb dX9_append_30 rfl (lv_at hl 1 rfl) ?_
  refine lv_dup hx hb dX9_append_31 rfl ?_
  refine va_get (D := D) (ci := 9) (v := .int 7) (C := RX9) (T := TX9) (N := 9) hx hb hts iT_X9 hown hK hP 0 rfl rfl 0 (by decide) (hts _ tw_1_195) (fun _ h9 => h9) rfl dX9_append_32 ?_
  refine lv_iconst (v := 1) hx hb dX9_append_35 (by decide) ?_
  refine lv_iadd hx hb dX9_append_36 ?_
  refine lv_topi (fun x_15 ex_15 => ?_)
  obtain rfl : x_15 = 8 := ex_15.trans (by decide)
  refine va_put (D := D) (ci := 9) (v := .int 8) (ty := tyX9 0) (C := RX9) (T := TX9) (N := 9) hx hb hts iT_X9 tyX9 tyX9_ok nmX9 hown hK hP hD hS 0 rfl rfl 0 (by decide) (hts _ tw_1_195) (fun _ h9 => h9) rfl (tyX9_ok 0 (by decide)) rfl rfl (Nat.le_of_ble_eq_true rfl) dX9_append_37 (fun H locs hP hD hS => ?_)
  have hP : va_P D vwCl [(ta, .inr (9, [.int 8, .int 0, .int (-1), .ref a3, .ref a4, .int 0, .int 0, .int 0, .int 0])), (a4, .inl (k 1, 1000, .inl (upd (upd (upd (upd fb 4 (vp_nar .byte x_1.toInt8.toInt32)) 5 (vp_nar .byte x_5.toInt8.toInt32)) 6 (vp_nar .byte x_9.toInt8.toInt32)) 7 (vp_nar .byte x_13.toInt8.toInt32))))] H := hP
  have hD : va_D A [(ta, .inr (9, [.int 8, .int 0, .int (-1), .ref a3, .ref a4, .int 0, .int 0, .int 0, .int 0])), (a4, .inl (k 1, 1000, .inl (upd (upd (upd (upd fb 4 (vp_nar .byte x_1.toInt8.toInt32)) 5 (vp_nar .byte x_5.toInt8.toInt32)) 6 (vp_nar .byte x_9.toInt8.toInt32)) 7 (vp_nar .byte x_13.toInt8.toInt32))))] := hD
  refine lv_iinc (v := (-8)) (lv' := [(2, .int (-8)), (0, .ref ta), (1, .int p0)]) hx hb dX9_append_40 hl (k := 0) rfl (by decide) (by decide) rfl (fun ls hl => ?_)
  refine lv_goto (tgt := 3) hx hb dX9_append_43 (by decide) ?_
  refine lv_iload_n hx hb dX9_append_3 rfl (lv_at hl 0 rfl) ?_
  refine lv_if_lt (tgt := 46) hx hb dX9_append_4 (by decide) (fun _ => ?_) (fun c9 => absurd c9 (by decide))
  have hP9 := hP.sub (ws' := [(ta, .inr (9, [.int 8, .int 0, .int (-1), .ref a3, .ref a4, .int 0, .int 0, .int 0, .int 0])), (a4, .inl (k 1, 1000, .inl (upd (upd (upd (upd fb 4 (vp_nar .byte x_1.toInt8.toInt32)) 5 (vp_nar .byte x_5.toInt8.toInt32)) 6 (vp_nar .byte x_9.toInt8.toInt32)) 7 (vp_nar .byte x_13.toInt8.toInt32))))]) [0, 1] rfl
  have hD9 := hD.sub (ws' := [(ta, .inr (9, [.int 8, .int 0, .int (-1), .ref a3, .ref a4, .int 0, .int 0, .int 0, .int 0])), (a4, .inl (k 1, 1000, .inl (upd (upd (upd (upd fb 4 (vp_nar .byte x_1.toInt8.toInt32)) 5 (vp_nar .byte x_5.toInt8.toInt32)) 6 (vp_nar .byte x_9.toInt8.toInt32)) 7 (vp_nar .byte x_13.toInt8.toInt32))))]) [0, 1] (by decide) rfl
  exact W.vret hx hb hr (fun tZ ht hW => ⟨⟨upd (upd (upd (upd fb 4 (vp_nar .byte x_1.toInt8.toInt32)) 5 (vp_nar .byte x_5.toInt8.toInt32)) 6 (vp_nar .byte x_9.toInt8.toInt32)) 7 (vp_nar .byte x_13.toInt8.toInt32), rfl, trivial, by rw [ht]; exact hP9, va_K.moved hW.alike hK, hD9⟩, hS.F ht⟩) hS.2.2 dX9_append_46
set_option maxHeartbeats 4000000 in
set_option maxRecDepth 100000 in
theorem c_X9_append_8 (l : Launch) (D : va_G) (k : Nat → ClassId) (ta : Nat) (a3 : Nat) (a4 : Nat) (fb : Nat → Int32) (p0 : Int32) (sz : Nat) : Met l yX9_append (ww yX9_append cX9_append 3 none) ({ frames := 0, cells := 0, slots := 0, locals := 0 }) (Pre0 D k [(ta, .inr (9, [.int 8, .int 0, .int (-1), .ref a3, .ref a4, .int 0, .int 0, .int 0, .int 0])), (a4, .inl (k 1, 1000, .inl fb))] sz [.ref ta, .int p0]) (va_Qv (fun (f2 : (Nat → Int32)) => True) (fun (f2 : (Nat → Int32)) tZ => Bw D k (va_A [(ta, .inr (9, [.int 8, .int 0, .int (-1), .ref a3, .ref a4, .int 0, .int 0, .int 0, .int 0])), (a4, .inl (k 1, 1000, .inl fb))] sz) [(ta, .inr (9, [.int 12, .int 0, .int (-1), .ref a3, .ref a4, .int 0, .int 0, .int 0, .int 0])), (a4, .inl (k 1, 1000, .inl f2))] tZ) (va_A [(ta, .inr (9, [.int 8, .int 0, .int (-1), .ref a3, .ref a4, .int 0, .int 0, .int 0, .int 0])), (a4, .inl (k 1, 1000, .inl fb))] sz)) 0 0 (va_A [(ta, .inr (9, [.int 8, .int 0, .int (-1), .ref a3, .ref a4, .int 0, .int 0, .int 0, .int 0])), (a4, .inl (k 1, 1000, .inl fb))] sz) := by
  refine Met.ofW (cc := cX9_append) (maxL := 3) (ret := none) (by decide +kernel) rfl ?_
  intro p e s m args below meth c s₁ B hml hv
  obtain ⟨rfl, hsz, hP, hK, hD0, hN⟩ := hv
  have hx := B.exec
  have hb := B.bytes
  have hr := B.returns
  have hts : ∀ w ∈ TT, w.before _ s = true := fun w h => atoms_spec (ws := ww yX9_append cX9_append 3 none) B.pre w (List.mem_cons_of_mem _ h)
  have hown : s.vm.findClass RX9 = some m.cls := findClass_of_methodNamed B.named
  have hlocks := B.notSynchronized
  subst hsz
  have hD := hD0.self (sz := s.heap.size)
  generalize hAe : va_A [(ta, .inr (9, [.int 8, .int 0, .int (-1), .ref a3, .ref a4, .int 0, .int 0, .int 0, .int 0])), (a4, .inl (k 1, 1000, .inl fb))] s.heap.size = A at hD ⊢
  have hA : ∀ q : Nat, s.heap.size ≤ q → A q := fun q h => by rw [← hAe]; exact Or.inr h
  have hS : va_S A s.heap s.heap [] := va_S.rf
  have hl := lv_entry ([.ref ta, .int p0]) (n := 3) (Nat.le_of_ble_eq_true rfl)
  rw [lg_entry_eq]
  generalize (lg_sl ([.ref ta, .int p0]) ++ List.replicate (3 - (lg_sl ([.ref ta, .int p0])).length) Slot.unset).toArray = ls at hl ⊢
  have hl : lv_has ls 3 [(0, .ref ta), (1, .int p0)] := hl
  refine lv_bipush (v := 24) hx hb dX9_append_0 (by decide) ?_
  refine lv_istore_n (lv' := [(2, .int 24), (0, .ref ta), (1, .int p0)]) hx hb dX9_append_2 rfl hl (by decide) rfl (fun ls hl => ?_)
  refine lv_iload_n hx hb dX9_append_3 rfl (lv_at hl 0 rfl) ?_
  refine lv_if_lt (tgt := 46) hx hb dX9_append_4 (by decide) (fun c9 => absurd c9 (by decide)) (fun _ => ?_)
  refine lv_aload_n hx hb dX9_append_7 rfl (lv_at hl 1 rfl) ?_
  refine va_get (D := D) (ci := 9) (v := .int 8) (C := RX9) (T := TX9) (N := 9) hx hb hts iT_X9 hown hK hP 0 rfl rfl 0 (by decide) (hts _ tw_1_195) (fun _ h9 => h9) rfl dX9_append_8 ?_
  refine lv_sipush (v := 1000) hx hb dX9_append_11 (by decide) ?_
  refine lv_icmp_ge (tgt := 40) hx hb dX9_append_14 (by decide) (fun c9 => absurd c9 (by decide)) (fun _ => ?_)
  refine lv_aload_n hx hb dX9_append_17 rfl (lv_at hl 1 rfl) ?_
  refine va_get (D := D) (ci := 9) (v := .ref a4) (C := RX9) (T := TX9) (N := 9) hx hb hts iT_X9 hown hK hP 0 rfl rfl 4 (by decide) (hts _ tw_1_203) (fun _ h9 => h9) rfl dX9_append_18 ?_
  refine lv_aload_n hx hb dX9_append_21 rfl (lv_at hl 1 rfl) ?_
  refine va_get (D := D) (ci := 9) (v := .int 8) (C := RX9) (T := TX9) (N := 9) hx hb hts iT_X9 hown hK hP 0 rfl rfl 0 (by decide) (hts _ tw_1_195) (fun _ h9 => h9) rfl dX9_append_22 ?_
  refine lv_iload_n hx hb dX9_append_25 rfl (lv_at hl 2 rfl) ?_
  refine lv_iload_n hx hb dX9_append_26 rfl (lv_at hl 0 rfl) ?_
  refine lv_ishr hx hb dX9_append_27 ?_
  refine lv_topi (fun x_1 ex_1 => ?_)
  refine lv_i2b (v := x_1.toInt8.toInt32) hx hb dX9_append_28 rfl ?_
  refine va_bast hx hb hK hP hD hS 1 1 rfl rfl (z_in (by decide) (by decide)) dX9_append_29 (fun H locs hP hD hS => ?_)
  have hP : va_P D vwCl [(ta, .inr (9, [.int 8, .int 0, .int (-1), .ref a3, .ref a4, .int 0, .int 0, .int 0, .int 0])), (a4, .inl (k 1, 1000, .inl (upd fb 8 (vp_nar .byte x_1.toInt8.toInt32))))] H := hP
  have hD : va_D A [(ta, .inr (9, [.int 8, .int 0, .int (-1), .ref a3, .ref a4, .int 0, .int 0, .int 0, .int 0])), (a4, .inl (k 1, 1000, .inl (upd fb 8 (vp_nar .byte x_1.toInt8.toInt32))))] := hD
  refine lv_aload_n hx hb dX9_append_30 rfl (lv_at hl 1 rfl) ?_
  refine lv_dup hx hb dX9_append_31 rfl ?_
  refine va_get (D := D) (ci := 9) (v := .int 8) (C := RX9) (T := TX9) (N := 9) hx hb hts iT_X9 hown hK hP 0 rfl rfl 0 (by decide) (hts _ tw_1_195) (fun _ h9 => h9) rfl dX9_append_32 ?_
  refine lv_iconst (v := 1) hx hb dX9_append_35 (by decide) ?_
  refine lv_iadd hx hb dX9_append_36 ?_
  refine lv_topi (fun x_3 ex_3 => ?_)
  obtain rfl : x_3 = 9 := ex_3.trans (by decide)
  refine va_put (D := D) (ci := 9) (v := .int 9) (ty := tyX9 0) (C := RX9) (T := TX9) (N := 9) hx hb hts iT_X9 tyX9 tyX9_ok nmX9 hown hK hP hD hS 0 rfl rfl 0 (by decide) (hts _ tw_1_195) (fun _ h9 => h9) rfl (tyX9_ok 0 (by decide)) rfl rfl (Nat.le_of_ble_eq_true rfl) dX9_append_37 (fun H locs hP hD hS => ?_)
  have hP : va_P D vwCl [(ta, .inr (9, [.int 9, .int 0, .int (-1), .ref a3, .ref a4, .int 0, .int 0, .int 0, .int 0])), (a4, .inl (k 1, 1000, .inl (upd fb 8 (vp_nar .byte x_1.toInt8.toInt32))))] H := hP
  have hD : va_D A [(ta, .inr (9, [.int 9, .int 0, .int (-1), .ref a3, .ref a4, .int 0, .int 0, .int 0, .int 0])), (a4, .inl (k 1, 1000, .inl (upd fb 8 (vp_nar .byte x_1.toInt8.toInt32))))] := hD
  refine lv_iinc (v := 16) (lv' := [(2, .int 16), (0, .ref ta), (1, .int p0)]) hx hb dX9_append_40 hl (k := 0) rfl (by decide) (by decide) rfl (fun ls hl => ?_)
  refine lv_goto (tgt := 3) hx hb dX9_append_43 (by decide) ?_
  refine lv_iload_n hx hb dX9_append_3 rfl (lv_at hl 0 rfl) ?_
  refine lv_if_lt (tgt := 46) hx hb dX9_append_4 (by decide) (fun c9 => absurd c9 (by decide)) (fun _ => ?_)
  refine lv_aload_n hx hb dX9_append_7 rfl (lv_at hl 1 rfl) ?_
  refine va_get (D := D) (ci := 9) (v := .int 9) (C := RX9) (T := TX9) (N := 9) hx hb hts iT_X9 hown hK hP 0 rfl rfl 0 (by decide) (hts _ tw_1_195) (fun _ h9 => h9) rfl dX9_append_8 ?_
  refine lv_sipush (v := 1000) hx hb dX9_append_11 (by decide) ?_
  refine lv_icmp_ge (tgt := 40) hx hb dX9_append_14 (by decide) (fun c9 => absurd c9 (by decide)) (fun _ => ?_)
  refine lv_aload_n hx hb dX9_append_17 rfl (lv_at hl 1 rfl) ?_
  refine va_get (D := D) (ci := 9) (v := .ref a4) (C := RX9) (T := TX9) (N := 9) hx hb hts iT_X9 hown hK hP 0 rfl rfl 4 (by decide) (hts _ tw_1_203) (fun _ h9 => h9) rfl dX9_append_18 ?_
  refine lv_aload_n hx hb dX9_append_21 rfl (lv_at hl 1 rfl) ?_
  refine va_get (D := D) (ci := 9) (v := .int 9) (C := RX9) (T := TX9) (N := 9) hx hb hts iT_X9 hown hK hP 0 rfl rfl 0 (by decide) (hts _ tw_1_195) (fun _ h9 => h9) rfl dX9_append_22 ?_
  refine lv_iload_n hx hb dX9_append_25 rfl (lv_at hl 2 rfl) ?_
  refine lv_iload_n hx hb dX9_append_26 rfl (lv_at hl 0 rfl) ?_
  refine lv_ishr hx hb dX9_append_27 ?_
  refine lv_topi (fun x_5 ex_5 => ?_)
  refine lv_i2b (v := x_5.toInt8.toInt32) hx hb dX9_append_28 rfl ?_
  refine va_bast hx hb hK hP hD hS 1 1 rfl rfl (z_in (by decide) (by decide)) dX9_append_29 (fun H locs hP hD hS => ?_)
  have hP : va_P D vwCl [(ta, .inr (9, [.int 9, .int 0, .int (-1), .ref a3, .ref a4, .int 0, .int 0, .int 0, .int 0])), (a4, .inl (k 1, 1000, .inl (upd (upd fb 8 (vp_nar .byte x_1.toInt8.toInt32)) 9 (vp_nar .byte x_5.toInt8.toInt32))))] H := hP
  have hD : va_D A [(ta, .inr (9, [.int 9, .int 0, .int (-1), .ref a3, .ref a4, .int 0, .int 0, .int 0, .int 0])), (a4, .inl (k 1, 1000, .inl (upd (upd fb 8 (vp_nar .byte x_1.toInt8.toInt32)) 9 (vp_nar .byte x_5.toInt8.toInt32))))] := hD
  refine lv_aload_n hx hb dX9_append_30 rfl (lv_at hl 1 rfl) ?_
  refine lv_dup hx hb dX9_append_31 rfl ?_
  refine va_get (D := D) (ci := 9) (v := .int 9) (C := RX9) (T := TX9) (N := 9) hx hb hts iT_X9 hown hK hP 0 rfl rfl 0 (by decide) (hts _ tw_1_195) (fun _ h9 => h9) rfl dX9_append_32 ?_
  refine lv_iconst (v := 1) hx hb dX9_append_35 (by decide) ?_
  refine lv_iadd hx hb dX9_append_36 ?_
  refine lv_topi (fun x_7 ex_7 => ?_)
  obtain rfl : x_7 = 10 := ex_7.trans (by decide)
  refine va_put (D := D) (ci := 9) (v := .int 10) (ty := tyX9 0) (C := RX9) (T := TX9) (N := 9) hx hb hts iT_X9 tyX9 tyX9_ok nmX9 hown hK hP hD hS 0 rfl rfl 0 (by decide) (hts _ tw_1_195) (fun _ h9 => h9) rfl (tyX9_ok 0 (by decide)) rfl rfl (Nat.le_of_ble_eq_true rfl) dX9_append_37 (fun H locs hP hD hS => ?_)
  have hP : va_P D vwCl [(ta, .inr (9, [.int 10, .int 0, .int (-1), .ref a3, .ref a4, .int 0, .int 0, .int 0, .int 0])), (a4, .inl (k 1, 1000, .inl (upd (upd fb 8 (vp_nar .byte x_1.toInt8.toInt32)) 9 (vp_nar .byte x_5.toInt8.toInt32))))] H := hP
  have hD : va_D A [(ta, .inr (9, [.int 10, .int 0, .int (-1), .ref a3, .ref a4, .int 0, .int 0, .int 0, .int 0])), (a4, .inl (k 1, 1000, .inl (upd (upd fb 8 (vp_nar .byte x_1.toInt8.toInt32)) 9 (vp_nar .byte x_5.toInt8.toInt32))))] := hD
  refine lv_iinc (v := 8) (lv' := [(2, .int 8), (0, .ref ta), (1, .int p0)]) hx hb dX9_append_40 hl (k := 0) rfl (by decide) (by decide) rfl (fun ls hl => ?_)
  refine lv_goto (tgt := 3) hx hb dX9_append_43 (by decide) ?_
  refine lv_iload_n hx hb dX9_append_3 rfl (lv_at hl 0 rfl) ?_
  refine lv_if_lt (tgt := 46) hx hb dX9_append_4 (by decide) (fun c9 => absurd c9 (by decide)) (fun _ => ?_)
  refine lv_aload_n hx hb dX9_append_7 rfl (lv_at hl 1 rfl) ?_
  refine va_get (D := D) (ci := 9) (v := .int 10) (C := RX9) (T := TX9) (N := 9) hx hb hts iT_X9 hown hK hP 0 rfl rfl 0 (by decide) (hts _ tw_1_195) (fun _ h9 => h9) rfl dX9_append_8 ?_
  refine lv_sipush (v := 1000) hx hb dX9_append_11 (by decide) ?_
  refine lv_icmp_ge (tgt := 40) hx hb dX9_append_14 (by decide) (fun c9 => absurd c9 (by decide)) (fun _ => ?_)
  refine lv_aload_n hx hb dX9_append_17 rfl (lv_at hl 1 rfl) ?_
  refine va_get (D := D) (ci := 9) (v := .ref a4) (C := RX9) (T := TX9) (N := 9) hx hb hts iT_X9 hown hK hP 0 rfl rfl 4 (by decide) (hts _ tw_1_203) (fun _ h9 => h9) rfl dX9_append_18 ?_
  refine lv_aload_n hx hb dX9_append_21 rfl (lv_at hl 1 rfl) ?_
  refine va_get (D := D) (ci := 9) (v := .int 10) (C := RX9) (T := TX9) (N := 9) hx hb hts iT_X9 hown hK hP 0 rfl rfl 0 (by decide) (hts _ tw_1_195) (fun _ h9 => h9) rfl dX9_append_22 ?_
  refine lv_iload_n hx hb dX9_append_25 rfl (lv_at hl 2 rfl) ?_
  refine lv_iload_n hx hb dX9_append_26 rfl (lv_at hl 0 rfl) ?_
  refine lv_ishr hx hb dX9_append_27 ?_
  refine lv_topi (fun x_9 ex_9 => ?_)
  refine lv_i2b (v := x_9.toInt8.toInt32) hx hb dX9_append_28 rfl ?_
  refine va_bast hx hb hK hP hD hS 1 1 rfl rfl (z_in (by decide) (by decide)) dX9_append_29 (fun H locs hP hD hS => ?_)
  have hP : va_P D vwCl [(ta, .inr (9, [.int 10, .int 0, .int (-1), .ref a3, .ref a4, .int 0, .int 0, .int 0, .int 0])), (a4, .inl (k 1, 1000, .inl (upd (upd (upd fb 8 (vp_nar .byte x_1.toInt8.toInt32)) 9 (vp_nar .byte x_5.toInt8.toInt32)) 10 (vp_nar .byte x_9.toInt8.toInt32))))] H := hP
  have hD : va_D A [(ta, .inr (9, [.int 10, .int 0, .int (-1), .ref a3, .ref a4, .int 0, .int 0, .int 0, .int 0])), (a4, .inl (k 1, 1000, .inl (upd (upd (upd fb 8 (vp_nar .byte x_1.toInt8.toInt32)) 9 (vp_nar .byte x_5.toInt8.toInt32)) 10 (vp_nar .byte x_9.toInt8.toInt32))))] := hD
  refine lv_aload_n hx hb dX9_append_30 rfl (lv_at hl 1 rfl) ?_
  refine lv_dup hx hb dX9_append_31 rfl ?_
  refine va_get (D := D) (ci := 9) (v := .int 10) (C := RX9) (T := TX9) (N := 9) hx hb hts iT_X9 hown hK hP 0 rfl rfl 0 (by decide) (hts _ tw_1_195) (fun _ h9 => h9) rfl dX9_append_32 ?_
  refine lv_iconst (v := 1) hx hb dX9_append_35 (by decide) ?_
  refine lv_iadd hx hb dX9_append_36 ?_
  refine lv_topi (fun x_11 ex_11 => ?_)
  obtain rfl : x_11 = 11 := ex_11.trans (by decide)
  refine va_put (D := D) (ci := 9) (v := .int 11) (ty := tyX9 0) (C := RX9) (T := TX9) (N := 9) hx hb hts iT_X9 tyX9 tyX9_ok nmX9 hown hK hP hD hS 0 rfl rfl 0 (by decide) (hts _ tw_1_195) (fun _ h9 => h9) rfl (tyX9_ok 0 (by decide)) rfl rfl (Nat.le_of_ble_eq_true rfl) dX9_append_37 (fun H locs hP hD hS => ?_)
  have hP : va_P D vwCl [(ta, .inr (9, [.int 11, .int 0, .int (-1), .ref a3, .ref a4, .int 0, .int 0, .int 0, .int 0])), (a4, .inl (k 1, 1000, .inl (upd (upd (upd fb 8 (vp_nar .byte x_1.toInt8.toInt32)) 9 (vp_nar .byte x_5.toInt8.toInt32)) 10 (vp_nar .byte x_9.toInt8.toInt32))))] H := hP
  have hD : va_D A [(ta, .inr (9, [.int 11, .int 0, .int (-1), .ref a3, .ref a4, .int 0, .int 0, .int 0, .int 0])), (a4, .inl (k 1, 1000, .inl (upd (upd (upd fb 8 (vp_nar .byte x_1.toInt8.toInt32)) 9 (vp_nar .byte x_5.toInt8.toInt32)) 10 (vp_nar .byte x_9.toInt8.toInt32))))] := hD
  refine lv_iinc (v := 0) (lv' := [(2, .int 0), (0, .ref ta), (1, .int p0)]) hx hb dX9_append_40 hl (k := 0) rfl (by decide) (by decide) rfl (fun ls hl => ?_)
  refine lv_goto (tgt := 3) hx hb dX9_append_43 (by decide) ?_
  refine lv_iload_n hx hb dX9_append_3 rfl (lv_at hl 0 rfl) ?_
  refine lv_if_lt (tgt := 46) hx hb dX9_append_4 (by decide) (fun c9 => absurd c9 (by decide)) (fun _ => ?_)
  refine lv_aload_n hx hb dX9_append_7 rfl (lv_at hl 1 rfl) ?_
  refine va_get (D := D) (ci := 9) (v := .int 11) (C := RX9) (T := TX9) (N := 9) hx hb hts iT_X9 hown hK hP 0 rfl rfl 0 (by decide) (hts _ tw_1_195) (fun _ h9 => h9) rfl dX9_append_8 ?_
  refine lv_sipush (v := 1000) hx hb dX9_append_11 (by decide) ?_
  refine lv_icmp_ge (tgt := 40) hx hb dX9_append_14 (by decide) (fun c9 => absurd c9 (by decide)) (fun _ => ?_)
  refine lv_aload_n hx hb dX9_append_17 rfl (lv_at hl 1 rfl) ?_
  refine va_get (D := D) (ci := 9) (v := .ref a4) (C := RX9) (T := TX9) (N := 9) hx hb hts iT_X9 hown hK hP 0 rfl rfl 4 (by decide) (hts _ tw_1_203) (fun _ h9 => h9) rfl dX9_append_18 ?_
  refine lv_aload_n hx hb dX9_append_21 rfl (lv_at hl 1 rfl) ?_
  refine va_get (D := D) (ci := 9) (v := .int 11) (C := RX9) (T := TX9) (N := 9) hx hb hts iT_X9 hown hK hP 0 rfl rfl 0 (by decide) (hts _ tw_1_195) (fun _ h9 => h9) rfl dX9_append_22 ?_
  refine lv_iload_n hx hb dX9_append_25 rfl (lv_at hl 2 rfl) ?_
  refine lv_iload_n hx hb dX9_append_26 rfl (lv_at hl 0 rfl) ?_
  refine lv_ishr hx hb dX9_append_27 ?_
  refine lv_topi (fun x_13 ex_13 => ?_)
  refine lv_i2b (v := x_13.toInt8.toInt32) hx hb dX9_append_28 rfl ?_
  refine va_bast hx hb hK hP hD hS 1 1 rfl rfl (z_in (by decide) (by decide)) dX9_append_29 (fun H locs hP hD hS => ?_)
  have hP : va_P D vwCl [(ta, .inr (9, [.int 11, .int 0, .int (-1), .ref a3, .ref a4, .int 0, .int 0, .int 0, .int 0])), (a4, .inl (k 1, 1000, .inl (upd (upd (upd (upd fb 8 (vp_nar .byte x_1.toInt8.toInt32)) 9 (vp_nar .byte x_5.toInt8.toInt32)) 10 (vp_nar .byte x_9.toInt8.toInt32)) 11 (vp_nar .byte x_13.toInt8.toInt32))))] H := hP
  have hD : va_D A [(ta, .inr (9, [.int 11, .int 0, .int (-1), .ref a3, .ref a4, .int 0, .int 0, .int 0, .int 0])), (a4, .inl (k 1, 1000, .inl (upd (upd (upd (upd fb 8 (vp_nar .byte x_1.toInt8.toInt32)) 9 (vp_nar .byte x_5.toInt8.toInt32)) 10 (vp_nar .byte x_9.toInt8.toInt32)) 11 (vp_nar .byte x_13.toInt8.toInt32))))] := hD
  refine lv_aload_n hx hb dX9_append_30 rfl (lv_at hl 1 rfl) ?_
  refine lv_dup hx hb dX9_append_31 rfl ?_
  refine va_get (D := D) (ci := 9) (v := .int 11) (C := RX9) (T := TX9) (N := 9) hx hb hts iT_X9 hown hK hP 0 rfl rfl 0 (by decide) (hts _ tw_1_195) (fun _ h9 => h9) rfl dX9_append_32 ?_
  refine lv_iconst (v := 1) hx hb dX9_append_35 (by decide) ?_
  refine lv_iadd hx hb dX9_append_36 ?_
  refine lv_topi (fun x_15 ex_15 => ?_)
  obtain rfl : x_15 = 12 := ex_15.trans (by decide)
  refine va_put (D := D) (ci := 9) (v := .int 12) (ty := tyX9 0) (C := RX9) (T := TX9) (N := 9) hx hb hts iT_X9 tyX9 tyX9_ok nmX9 hown hK hP hD hS 0 rfl rfl 0 (by decide) (hts _ tw_1_195) (fun _ h9 => h9) rfl (tyX9_ok 0 (by decide)) rfl rfl (Nat.le_of_ble_eq_true rfl) dX9_append_37 (fun H locs hP hD hS => ?_)
  have hP : va_P D vwCl [(ta, .inr (9, [.int 12, .int 0, .int (-1), .ref a3, .ref a4, .int 0, .int 0, .int 0, .int 0])), (a4, .inl (k 1, 1000, .inl (upd (upd (upd (upd fb 8 (vp_nar .byte x_1.toInt8.toInt32)) 9 (vp_nar .byte x_5.toInt8.toInt32)) 10 (vp_nar .byte x_9.toInt8.toInt32)) 11 (vp_nar .byte x_13.toInt8.toInt32))))] H := hP
  have hD : va_D A [(ta, .inr (9, [.int 12, .int 0, .int (-1), .ref a3, .ref a4, .int 0, .int 0, .int 0, .int 0])), (a4, .inl (k 1, 1000, .inl (upd (upd (upd (upd fb 8 (vp_nar .byte x_1.toInt8.toInt32)) 9 (vp_nar .byte x_5.toInt8.toInt32)) 10 (vp_nar .byte x_9.toInt8.toInt32)) 11 (vp_nar .byte x_13.toInt8.toInt32))))] := hD
  refine lv_iinc (v := (-8)) (lv' := [(2, .int (-8)), (0, .ref ta), (1, .int p0)]) hx hb dX9_append_40 hl (k := 0) rfl (by decide) (by decide) rfl (fun ls hl => ?_)
  refine lv_goto (tgt := 3) hx hb dX9_append_43 (by decide) ?_
  refine lv_iload_n hx hb dX9_append_3 rfl (lv_at hl 0 rfl) ?_
  refine lv_if_lt (tgt := 46) hx hb dX9_append_4 (by decide) (fun _ => ?_) (fun c9 => absurd c9 (by decide))
  have hP9 := hP.sub (ws' := [(ta, .inr (9, [.int 12, .int 0, .int (-1), .ref a3, .ref a4, .int 0, .int 0, .int 0, .int 0])), (a4, .inl (k 1, 1000, .inl (upd (upd (upd (upd fb 8 (vp_nar .byte x_1.toInt8.toInt32)) 9 (vp_nar .byte x_5.toInt8.toInt32)) 10 (vp_nar .byte x_9.toInt8.toInt32)) 11 (vp_nar .byte x_13.toInt8.toInt32))))]) [0, 1] rfl
  have hD9 := hD.sub (ws' := [(ta, .inr (9, [.int 12, .int 0, .int (-1), .ref a3, .ref a4, .int 0, .int 0, .int 0, .int 0])), (a4, .inl (k 1, 1000, .inl (upd (upd (upd (upd fb 8 (vp_nar .byte x_1.toInt8.toInt32)) 9 (vp_nar .byte x_5.toInt8.toInt32)) 10 (vp_nar .byte x_9.toInt8.toInt32)) 11 (vp_nar .byte x_13.toInt8.toInt32))))]) [0, 1] (by decide) rfl
  exact W.vret hx hb hr (fun tZ ht hW => ⟨⟨upd (upd (upd (upd fb 8 (vp_nar .byte x_1.toInt8.toInt32)) 9 (vp_nar .byte x_5.toInt8.toInt32)) 10 (vp_nar .byte x_9.toInt8.toInt32)) 11 (vp_nar .byte x_13.toInt8.toInt32), rfl, trivial, by rw [ht]; exact hP9, va_K.moved hW.alike hK, hD9⟩, hS.F ht⟩) hS.2.2 dX9_append_46
set_option maxHeartbeats 4000000 in
set_option maxRecDepth 100000 in
theorem c_X9_append_12 (l : Launch) (D : va_G) (k : Nat → ClassId) (ta : Nat) (a3 : Nat) (a4 : Nat) (fb : Nat → Int32) (p0 : Int32) (sz : Nat) : Met l yX9_append (ww yX9_append cX9_append 3 none) ({ frames := 0, cells := 0, slots := 0, locals := 0 }) (Pre0 D k [(ta, .inr (9, [.int 12, .int 0, .int (-1), .ref a3, .ref a4, .int 0, .int 0, .int 0, .int 0])), (a4, .inl (k 1, 1000, .inl fb))] sz [.ref ta, .int p0]) (va_Qv (fun (f2 : (Nat → Int32)) => True) (fun (f2 : (Nat → Int32)) tZ => Bw D k (va_A [(ta, .inr (9, [.int 12, .int 0, .int (-1), .ref a3, .ref a4, .int 0, .int 0, .int 0, .int 0])), (a4, .inl (k 1, 1000, .inl fb))] sz) [(ta, .inr (9, [.int 16, .int 0, .int (-1), .ref a3, .ref a4, .int 0, .int 0, .int 0, .int 0])), (a4, .inl (k 1, 1000, .inl f2))] tZ) (va_A [(ta, .inr (9, [.int 12, .int 0, .int (-1), .ref a3, .ref a4, .int 0, .int 0, .int 0, .int 0])), (a4, .inl (k 1, 1000, .inl fb))] sz)) 0 0 (va_A [(ta, .inr (9, [.int 12, .int 0, .int (-1), .ref a3, .ref a4, .int 0, .int 0, .int 0, .int 0])), (a4, .inl (k 1, 1000, .inl fb))] sz) := by
  refine Met.ofW (cc := cX9_append) (maxL := 3) (ret := none) (by decide +kernel) rfl ?_
  intro p e s m args below meth c s₁ B hml hv
  obtain ⟨rfl, hsz, hP, hK, hD0, hN⟩ := hv
  have hx := B.exec
  have hb := B.bytes
  have hr := B.returns
  have hts : ∀ w ∈ TT, w.before _ s = true := fun w h => atoms_spec (ws := ww yX9_append cX9_append 3 none) B.pre w (List.mem_cons_of_mem _ h)
  have hown : s.vm.findClass RX9 = some m.cls := findClass_of_methodNamed B.named
  have hlocks := B.notSynchronized
  subst hsz
  have hD := hD0.self (sz := s.heap.size)
  generalize hAe : va_A [(ta, .inr (9, [.int 12, .int 0, .int (-1), .ref a3, .ref a4, .int 0, .int 0, .int 0, .int 0])), (a4, .inl (k 1, 1000, .inl fb))] s.heap.size = A at hD ⊢
  have hA : ∀ q : Nat, s.heap.size ≤ q → A q := fun q h => by rw [← hAe]; exact Or.inr h
  have hS : va_S A s.heap s.heap [] := va_S.rf
  have hl := lv_entry ([.ref ta, .int p0]) (n := 3) (Nat.le_of_ble_eq_true rfl)
  rw [lg_entry_eq]
  generalize (lg_sl ([.ref ta, .int p0]) ++ List.replicate (3 - (lg_sl ([.ref ta, .int p0])).length) Slot.unset).toArray = ls at hl ⊢
  have hl : lv_has ls 3 [(0, .ref ta), (1, .int p0)] := hl
  refine lv_bipush (v := 24) hx hb dX9_append_0 (by decide) ?_
  refine lv_istore_n (lv' := [(2, .int 24), (0, .ref ta), (1, .int p0)]) hx hb dX9_append_2 rfl hl (by decide) rfl (fun ls hl => ?_)
  refine lv_iload_n hx hb dX9_append_3 rfl (lv_at hl 0 rfl) ?_
  refine lv_if_lt (tgt := 46) hx hb dX9_append_4 (by decide) (fun c9 => absurd c9 (by decide)) (fun _ => ?_)
  refine lv_aload_n hx hb dX9_append_7 rfl (lv_at hl 1 rfl) ?_
  refine va_get (D := D) (ci := 9) (v := .int 12) (C := RX9) (T := TX9) (N := 9) hx hb hts iT_X9 hown hK hP 0 rfl rfl 0 (by decide) (hts _ tw_1_195) (fun _ h9 => h9) rfl dX9_append_8 ?_
  refine lv_sipush (v := 1000) hx hb dX9_append_11 (by decide) ?_
  refine lv_icmp_ge (tgt := 40) hx hb dX9_append_14 (by decide) (fun c9 => absurd c9 (by decide)) (fun _ => ?_)
  refine lv_aload_n hx hb dX9_append_17 rfl (lv_at hl 1 rfl) ?_
  refine va_get (D := D) (ci := 9) (v := .ref a4) (C := RX9) (T := TX9) (N := 9) hx hb hts iT_X9 hown hK hP 0 rfl rfl 4 (by decide) (hts _ tw_1_203) (fun _ h9 => h9) rfl dX9_append_18 ?_
  refine lv_aload_n hx hb dX9_append_21 rfl (lv_at hl 1 rfl) ?_
  refine va_get (D := D) (ci := 9) (v := .int 12) (C := RX9) (T := TX9) (N := 9) hx hb hts iT_X9 hown hK hP 0 rfl rfl 0 (by decide) (hts _ tw_1_195) (fun _ h9 => h9) rfl dX9_append_22 ?_
  refine lv_iload_n hx hb dX9_append_25 rfl (lv_at hl 2 rfl) ?_
  refine lv_iload_n hx hb dX9_append_26 rfl (lv_at hl 0 rfl) ?_
  refine lv_ishr hx hb dX9_append_27 ?_
  refine lv_topi (fun x_1 ex_1 => ?_)
  refine lv_i2b (v := x_1.toInt8.toInt32) hx hb dX9_append_28 rfl ?_
  refine va_bast hx hb hK hP hD hS 1 1 rfl rfl (z_in (by decide) (by decide)) dX9_append_29 (fun H locs hP hD hS => ?_)
  have hP : va_P D vwCl [(ta, .inr (9, [.int 12, .int 0, .int (-1), .ref a3, .ref a4, .int 0, .int 0, .int 0, .int 0])), (a4, .inl (k 1, 1000, .inl (upd fb 12 (vp_nar .byte x_1.toInt8.toInt32))))] H := hP
  have hD : va_D A [(ta, .inr (9, [.int 12, .int 0, .int (-1), .ref a3, .ref a4, .int 0, .int 0, .int 0, .int 0])), (a4, .inl (k 1, 1000, .inl (upd fb 12 (vp_nar .byte x_1.toInt8.toInt32))))] := hD
  refine lv_aload_n hx hb dX9_append_30 rfl (lv_at hl 1 rfl) ?_
  refine lv_dup hx hb dX9_append_31 rfl ?_
  refine va_get (D := D) (ci := 9) (v := .int 12) (C := RX9) (T := TX9) (N := 9) hx hb hts iT_X9 hown hK hP 0 rfl rfl 0 (by decide) (hts _ tw_1_195) (fun _ h9 => h9) rfl dX9_append_32 ?_
  refine lv_iconst (v := 1) hx hb dX9_append_35 (by decide) ?_
  refine lv_iadd hx hb dX9_append_36 ?_
  refine lv_topi (fun x_3 ex_3 => ?_)
  obtain rfl : x_3 = 13 := ex_3.trans (by decide)
  refine va_put (D := D) (ci := 9) (v := .int 13) (ty := tyX9 0) (C := RX9) (T := TX9) (N := 9) hx hb hts iT_X9 tyX9 tyX9_ok nmX9 hown hK hP hD hS 0 rfl rfl 0 (by decide) (hts _ tw_1_195) (fun _ h9 => h9) rfl (tyX9_ok 0 (by decide)) rfl rfl (Nat.le_of_ble_eq_true rfl) dX9_append_37 (fun H locs hP hD hS => ?_)
  have hP : va_P D vwCl [(ta, .inr (9, [.int 13, .int 0, .int (-1), .ref a3, .ref a4, .int 0, .int 0, .int 0, .int 0])), (a4, .inl (k 1, 1000, .inl (upd fb 12 (vp_nar .byte x_1.toInt8.toInt32))))] H := hP
  have hD : va_D A [(ta, .inr (9, [.int 13, .int 0, .int (-1), .ref a3, .ref a4, .int 0, .int 0, .int 0, .int 0])), (a4, .inl (k 1, 1000, .inl (upd fb 12 (vp_nar .byte x_1.toInt8.toInt32))))] := hD
  refine lv_iinc (v := 16) (lv' := [(2, .int 16), (0, .ref ta), (1, .int p0)]) hx hb dX9_append_40 hl (k := 0) rfl (by decide) (by decide) rfl (fun ls hl => ?_)
  refine lv_goto (tgt := 3) hx hb dX9_append_43 (by decide) ?_
  refine lv_iload_n hx hb dX9_append_3 rfl (lv_at hl 0 rfl) ?_
  refine lv_if_lt (tgt := 46) hx hb dX9_append_4 (by decide) (fun c9 => absurd c9 (by decide)) (fun _ => ?_)
  refine lv_aload_n hx hb dX9_append_7 rfl (lv_at hl 1 rfl) ?_
  refine va_get (D := D) (ci := 9) (v := .int 13) (C := RX9) (T := TX9) (N := 9) hx hb hts iT_X9 hown hK hP 0 rfl rfl 0 (by decide) (hts _ tw_1_195) (fun _ h9 => h9) rfl dX9_append_8 ?_
  refine lv_sipush (v := 1000) hx hb dX9_append_11 (by decide) ?_
  refine lv_icmp_ge (tgt := 40) hx hb dX9_append_14 (by decide) (fun c9 => absurd c9 (by decide)) (fun _ => ?_)
  refine lv_aload_n hx hb dX9_append_17 rfl (lv_at hl 1 rfl) ?_
  refine va_get (D := D) (ci := 9) (v := .ref a4) (C := RX9) (T := TX9) (N := 9) hx hb hts iT_X9 hown hK hP 0 rfl rfl 4 (by decide) (hts _ tw_1_203) (fun _ h9 => h9) rfl dX9_append_18 ?_
  refine lv_aload_n hx hb dX9_append_21 rfl (lv_at hl 1 rfl) ?_
  refine va_get (D := D) (ci := 9) (v := .int 13) (C := RX9) (T := TX9) (N := 9) hx hb hts iT_X9 hown hK hP 0 rfl rfl 0 (by decide) (hts _ tw_1_195) (fun _ h9 => h9) rfl dX9_append_22 ?_
  refine lv_iload_n hx hb dX9_append_25 rfl (lv_at hl 2 rfl) ?_
  refine lv_iload_n hx hb dX9_append_26 rfl (lv_at hl 0 rfl) ?_
  refine lv_ishr hx hb dX9_append_27 ?_
  refine lv_topi (fun x_5 ex_5 => ?_)
  refine lv_i2b (v := x_5.toInt8.toInt32) hx hb dX9_append_28 rfl ?_
  refine va_bast hx hb hK hP hD hS 1 1 rfl rfl (z_in (by decide) (by decide)) dX9_append_29 (fun H locs hP hD hS => ?_)
  have hP : va_P D vwCl [(ta, .inr (9, [.int 13, .int 0, .int (-1), .ref a3, .ref a4, .int 0, .int 0, .int 0, .int 0])), (a4, .inl (k 1, 1000, .inl (upd (upd fb 12 (vp_nar .byte x_1.toInt8.toInt32)) 13 (vp_nar .byte x_5.toInt8.toInt32))))] H := hP
  have hD : va_D A [(ta, .inr (9, [.int 13, .int 0, .int (-1), .ref a3, .ref a4, .int 0, .int 0, .int 0, .int 0])), (a4, .inl (k 1, 1000, .inl (upd (upd fb 12 (vp_nar .byte x_1.toInt8.toInt32)) 13 (vp_nar .byte x_5.toInt8.toInt32))))] := hD
  refine lv_aload_n hx hb dX9_append_30 rfl (lv_at hl 1 rfl) ?_
  refine lv_dup hx hb dX9_append_31 rfl ?_
  refine va_get (D := D) (ci := 9) (v := .int 13) (C := RX9) (T := TX9) (N := 9) hx hb hts iT_X9 hown hK hP 0 rfl rfl 0 (by decide) (hts _ tw_1_195) (fun _ h9 => h9) rfl dX9_append_32 ?_
  refine lv_iconst (v := 1) hx hb dX9_append_35 (by decide) ?_
  refine lv_iadd hx hb dX9_append_36 ?_
  refine lv_topi (fun x_7 ex_7 => ?_)
  obtain rfl : x_7 = 14 := ex_7.trans (by decide)
  refine va_put (D := D) (ci := 9) (v := .int 14) (ty := tyX9 0) (C := RX9) (T := TX9) (N := 9) hx hb hts iT_X9 tyX9 tyX9_ok nmX9 hown hK hP hD hS 0 rfl rfl 0 (by decide) (hts _ tw_1_195) (fun _ h9 => h9) rfl (tyX9_ok 0 (by decide)) rfl rfl (Nat.le_of_ble_eq_true rfl) dX9_append_37 (fun H locs hP hD hS => ?_)
  have hP : va_P D vwCl [(ta, .inr (9, [.int 14, .int 0, .int (-1), .ref a3, .ref a4, .int 0, .int 0, .int 0, .int 0])), (a4, .inl (k 1, 1000, .inl (upd (upd fb 12 (vp_nar .byte x_1.toInt8.toInt32)) 13 (vp_nar .byte x_5.toInt8.toInt32))))] H := hP
  have hD : va_D A [(ta, .inr (9, [.int 14, .int 0, .int (-1), .ref a3, .ref a4, .int 0, .int 0, .int 0, .int 0])), (a4, .inl (k 1, 1000, .inl (upd (upd fb 12 (vp_nar .byte x_1.toInt8.toInt32)) 13 (vp_nar .byte x_5.toInt8.toInt32))))] := hD
  refine lv_iinc (v := 8) (lv' := [(2, .int 8), (0, .ref ta), (1, .int p0)]) hx hb dX9_append_40 hl (k := 0) rfl (by decide) (by decide) rfl (fun ls hl => ?_)
  refine lv_goto (tgt := 3) hx hb dX9_append_43 (by decide) ?_
  refine lv_iload_n hx hb dX9_append_3 rfl (lv_at hl 0 rfl) ?_
  refine lv_if_lt (tgt := 46) hx hb dX9_append_4 (by decide) (fun c9 => absurd c9 (by decide)) (fun _ => ?_)
  refine lv_aload_n hx hb dX9_append_7 rfl (lv_at hl 1 rfl) ?_
  refine va_get (D := D) (ci := 9) (v := .int 14) (C := RX9) (T := TX9) (N := 9) hx hb hts iT_X9 hown hK hP 0 rfl rfl 0 (by decide) (hts _ tw_1_195) (fun _ h9 => h9) rfl dX9_append_8 ?_
  refine lv_sipush (v := 1000) hx hb dX9_append_11 (by decide) ?_
  refine lv_icmp_ge (tgt := 40) hx hb dX9_append_14 (by decide) (fun c9 => absurd c9 (by decide)) (fun _ => ?_)
  refine lv_aload_n hx hb dX9_append_17 rfl (lv_at hl 1 rfl) ?_
  refine va_get (D := D) (ci := 9) (v := .ref a4) (C := RX9) (T := TX9) (N := 9) hx hb hts iT_X9 hown hK hP 0 rfl rfl 4 (by decide) (hts _ tw_1_203) (fun _ h9 => h9) rfl dX9_append_18 ?_
  refine lv_aload_n hx hb dX9_append_21 rfl (lv_at hl 1 rfl) ?_
  refine va_get (D := D) (ci := 9) (v := .int 14) (C := RX9) (T := TX9) (N := 9) hx hb hts iT_X9 hown hK hP 0 rfl rfl 0 (by decide) (hts _ tw_1_195) (fun _ h9 => h9) rfl dX9_append_22 ?_
  refine lv_iload_n hx hb dX9_append_25 rfl (lv_at hl 2 rfl) ?_
  refine lv_iload_n hx hb dX9_append_26 rfl (lv_at hl 0 rfl) ?_
  refine lv_ishr hx hb dX9_append_27 ?_
  refine lv_topi (fun x_9 ex_9 => ?_)
  refine lv_i2b (v := x_9.toInt8.toInt32) hx hb dX9_append_28 rfl ?_
  refine va_bast hx hb hK hP hD hS 1 1 rfl rfl (z_in (by decide) (by decide)) dX9_append_29 (fun H locs hP hD hS => ?_)
  have hP : va_P D vwCl [(ta, .inr (9, [.int 14, .int 0, .int (-1), .ref a3, .ref a4, .int 0, .int 0, .int 0, .int 0])), (a4, .inl (k 1, 1000, .inl (upd (upd (upd fb 12 (vp_nar .byte x_1.toInt8.toInt32)) 13 (vp_nar .byte x_5.toInt8.toInt32)) 14 (vp_nar .byte x_9.toInt8.toInt32))))] H := hP
  have hD : va_D A [(ta, .inr (9, [.int 14, .int 0, .int (-1), .ref a3, .ref a4, .int 0, .int 0, .int 0, .int 0])), (a4, .inl (k 1, 1000, .inl (upd (upd (upd fb 12 (vp_nar .byte x_1.toInt8.toInt32)) 13 (vp_nar .byte x_5.toInt8.toInt32)) 14 (vp_nar .byte x_9.toInt8.toInt32))))] := hD
  refine lv_aload_n hx hb dX9_append_30 rfl (lv_at hl 1 rfl) ?_
  refine lv_dup hx hb dX9_append_31 rfl ?_
  refine va_get (D := D) (ci := 9) (v := .int 14) (C := RX9) (T := TX9) (N := 9) hx hb hts iT_X9 hown hK hP 0 rfl rfl 0 (by decide) (hts _ tw_1_195) (fun _ h9 => h9) rfl dX9_append_32 ?_
  refine lv_iconst (v := 1) hx hb dX9_append_35 (by decide) ?_
  refine lv_iadd hx hb dX9_append_36 ?_
  refine lv_topi (fun x_11 ex_11 => ?_)
  obtain rfl : x_11 = 15 := ex_11.trans (by decide)
  refine va_put (D := D) (ci := 9) (v := .int 15) (ty := tyX9 0) (C := RX9) (T := TX9) (N := 9) hx hb hts iT_X9 tyX9 tyX9_ok nmX9 hown hK hP hD hS 0 rfl rfl 0 (by decide) (hts _ tw_1_195) (fun _ h9 => h9) rfl (tyX9_ok 0 (by decide)) rfl rfl (Nat.le_of_ble_eq_true rfl) dX9_append_37 (fun H locs hP hD hS => ?_)
  have hP : va_P D vwCl [(ta, .inr (9, [.int 15, .int 0, .int (-1), .ref a3, .ref a4, .int 0, .int 0, .int 0, .int 0])), (a4, .inl (k 1, 1000, .inl (upd (upd (upd fb 12 (vp_nar .byte x_1.toInt8.toInt32)) 13 (vp_nar .byte x_5.toInt8.toInt32)) 14 (vp_nar .byte x_9.toInt8.toInt32))))] H := hP
  have hD : va_D A [(ta, .inr (9, [.int 15, .int 0, .int (-1), .ref a3, .ref a4, .int 0, .int 0, .int 0, .int 0])), (a4, .inl (k 1, 1000, .inl (upd (upd (upd fb 12 (vp_nar .byte x_1.toInt8.toInt32)) 13 (vp_nar .byte x_5.toInt8.toInt32)) 14 (vp_nar .byte x_9.toInt8.toInt32))))] := hD
  refine lv_iinc (v := 0) (lv' := [(2, .int 0), (0, .ref ta), (1, .int p0)]) hx hb dX9_append_40 hl (k := 0) rfl (by decide) (by decide) rfl (fun ls hl => ?_)
  refine lv_goto (tgt := 3) hx hb dX9_append_43 (by decide) ?_
  refine lv_iload_n hx hb dX9_append_3 rfl (lv_at hl 0 rfl) ?_
  refine lv_if_lt (tgt := 46) hx hb dX9_append_4 (by decide) (fun c9 => absurd c9 (by decide)) (fun _ => ?_)
  refine lv_aload_n hx hb dX9_append_7 rfl (lv_at hl 1 rfl) ?_
  refine va_get (D := D) (ci := 9) (v := .int 15) (C := RX9) (T := TX9) (N := 9) hx hb hts iT_X9 hown hK hP 0 rfl rfl 0 (by decide) (hts _ tw_1_195) (fun _ h9 => h9) rfl dX9_append_8 ?_
  refine lv_sipush (v := 1000) hx hb dX9_append_11 (by decide) ?_
  refine lv_icmp_ge (tgt := 40) hx hb dX9_append_14 (by decide) (fun c9 => absurd c9 (by decide)) (fun _ => ?_)
  refine lv_aload_n hx hb dX9_append_17 rfl (lv_at hl 1 rfl) ?_
  refine va_get (D := D) (ci := 9) (v := .ref a4) (C := RX9) (T := TX9) (N := 9) hx hb hts iT_X9 hown hK hP 0 rfl rfl 4 (by decide) (hts _ tw_1_203) (fun _ h9 => h9) rfl dX9_append_18 ?_
  refine lv_aload_n hx hb dX9_append_21 rfl (lv_at hl 1 rfl) ?_
  refine va_get (D := D) (ci := 9) (v := .int 15) (C := RX9) (T := TX9) (N := 9) hx hb hts iT_X9 hown hK hP 0 rfl rfl 0 (by decide) (hts _ tw_1_195) (fun _ h9 => h9) rfl dX9_append_22 ?_
  refine lv_iload_n hx hb dX9_append_25 rfl (lv_at hl 2 rfl) ?_
  refine lv_iload_n hx hb dX9_append_26 rfl (lv_at hl 0 rfl) ?_
  refine lv_ishr hx hb dX9_append_27 ?_
  refine lv_topi (fun x_13 ex_13 => ?_)
  refine lv_i2b (v := x_13.toInt8.toInt32) hx hb dX9_append_28 rfl ?_
  refine va_bast hx hb hK hP hD hS 1 1 rfl rfl (z_in (by decide) (by decide)) dX9_append_29 (fun H locs hP hD hS => ?_)
  have hP : va_P D vwCl [(ta, .inr (9, [.int 15, .int 0, .int (-1), .ref a3, .ref a4, .int 0, .int 0, .int 0, .int 0])), (a4, .inl (k 1, 1000, .inl (upd (upd (upd (upd fb 12 (vp_nar .byte x_1.toInt8.toInt32)) 13 (vp_nar .byte x_5.toInt8.toInt32)) 14 (vp_nar .byte x_9.toInt8.toInt32)) 15 (vp_nar .byte x_13.toInt8.toInt32))))] H := hP
  have hD : va_D A [(ta, .inr (9, [.int 15, .int 0, .int (-1), .ref a3, .ref a4, .int 0, .int 0, .int 0, .int 0])), (a4, .inl (k 1, 1000, .inl (upd (upd (upd (upd fb 12 (vp_nar .byte x_1.toInt8.toInt32)) 13 (vp_nar .byte x_5.toInt8.toInt32)) 14 (vp_nar .byte x_9.toInt8.toInt32)) 15 (vp_nar .byte x_13.toInt8.toInt32))))] := hD
  refine lv_aload_n hx hb dX9_append_30 rfl (lv_at hl 1 rfl) ?_
  refine lv_dup hx hb dX9_append_31 rfl ?_
  refine va_get (D := D) (ci := 9) (v := .int 15) (C := RX9) (T := TX9) (N := 9) hx hb hts iT_X9 hown hK hP 0 rfl rfl 0 (by decide) (hts _ tw_1_195) (fun _ h9 => h9) rfl dX9_append_32 ?_
  refine lv_iconst (v := 1) hx hb dX9_append_35 (by decide) ?_
  refine lv_iadd hx hb dX9_append_36 ?_
  refine lv_topi (fun x_15 ex_15 => ?_)
  obtain rfl : x_15 = 16 := ex_15.trans (by decide)
  refine va_put (D := D) (ci := 9) (v := .int 16) (ty := tyX9 0) (C := RX9) (T := TX9) (N := 9) hx hb hts iT_X9 tyX9 tyX9_ok nmX9 hown hK hP hD hS 0 rfl rfl 0 (by decide) (hts _ tw_1_195) (fun _ h9 => h9) rfl (tyX9_ok 0 (by decide)) rfl rfl (Nat.le_of_ble_eq_true rfl) dX9_append_37 (fun H locs hP hD hS => ?_)
  have hP : va_P D vwCl [(ta, .inr (9, [.int 16, .int 0, .int (-1), .ref a3, .ref a4, .int 0, .int 0, .int 0, .int 0])), (a4, .inl (k 1, 1000, .inl (upd (upd (upd (upd fb 12 (vp_nar .byte x_1.toInt8.toInt32)) 13 (vp_nar .byte x_5.toInt8.toInt32)) 14 (vp_nar .byte x_9.toInt8.toInt32)) 15 (vp_nar .byte x_13.toInt8.toInt32))))] H := hP
  have hD : va_D A [(ta, .inr (9, [.int 16, .int 0, .int (-1), .ref a3, .ref a4, .int 0, .int 0, .int 0, .int 0])), (a4, .inl (k 1, 1000, .inl (upd (upd (upd (upd fb 12 (vp_nar .byte x_1.toInt8.toInt32)) 13 (vp_nar .byte x_5.toInt8.toInt32)) 14 (vp_nar .byte x_9.toInt8.toInt32)) 15 (vp_nar .byte x_13.toInt8.toInt32))))] := hD
  refine lv_iinc (v := (-8)) (lv' := [(2, .int (-8)), (0, .ref ta), (1, .int p0)]) hx hb dX9_append_40 hl (k := 0) rfl (by decide) (by decide) rfl (fun ls hl => ?_)
  refine lv_goto (tgt := 3) hx hb dX9_append_43 (by decide) ?_
  refine lv_iload_n hx hb dX9_append_3 rfl (lv_at hl 0 rfl) ?_
  refine lv_if_lt (tgt := 46) hx hb dX9_append_4 (by decide) (fun _ => ?_) (fun c9 => absurd c9 (by decide))
  have hP9 := hP.sub (ws' := [(ta, .inr (9, [.int 16, .int 0, .int (-1), .ref a3, .ref a4, .int 0, .int 0, .int 0, .int 0])), (a4, .inl (k 1, 1000, .inl (upd (upd (upd (upd fb 12 (vp_nar .byte x_1.toInt8.toInt32)) 13 (vp_nar .byte x_5.toInt8.toInt32)) 14 (vp_nar .byte x_9.toInt8.toInt32)) 15 (vp_nar .byte x_13.toInt8.toInt32))))]) [0, 1] rfl
  have hD9 := hD.sub (ws' := [(ta, .inr (9, [.int 16, .int 0, .int (-1), .ref a3, .ref a4, .int 0, .int 0, .int 0, .int 0])), (a4, .inl (k 1, 1000, .inl (upd (upd (upd (upd fb 12 (vp_nar .byte x_1.toInt8.toInt32)) 13 (vp_nar .byte x_5.toInt8.toInt32)) 14 (vp_nar .byte x_9.toInt8.toInt32)) 15 (vp_nar .byte x_13.toInt8.toInt32))))]) [0, 1] (by decide) rfl
  exact W.vret hx hb hr (fun tZ ht hW => ⟨⟨upd (upd (upd (upd fb 12 (vp_nar .byte x_1.toInt8.toInt32)) 13 (vp_nar .byte x_5.toInt8.toInt32)) 14 (vp_nar .byte x_9.toInt8.toInt32)) 15 (vp_nar .byte x_13.toInt8.toInt32), rfl, trivial, by rw [ht]; exact hP9, va_K.moved hW.alike hK, hD9⟩, hS.F ht⟩) hS.2.2 dX9_append_46
set_option maxHeartbeats 4000000 in
set_option maxRecDepth 100000 in
theorem c_X9_append_16 (l : Launch) (D : va_G) (k : Nat → ClassId) (ta : Nat) (a3 : Nat) (a4 : Nat) (fb : Nat → Int32) (p0 : Int32) (sz : Nat) : Met l yX9_append (ww yX9_append cX9_append 3 none) ({ frames := 0, cells := 0, slots := 0, locals := 0 }) (Pre0 D k [(ta, .inr (9, [.int 16, .int 0, .int (-1), .ref a3, .ref a4, .int 0, .int 0, .int 0, .int 0])), (a4, .inl (k 1, 1000, .inl fb))] sz [.ref ta, .int p0]) (va_Qv (fun (f2 : (Nat → Int32)) => True) (fun (f2 : (Nat → Int32)) tZ => Bw D k (va_A [(ta, .inr (9, [.int 16, .int 0, .int (-1), .ref a3, .ref a4, .int 0, .int 0, .int 0, .int 0])), (a4, .inl (k 1, 1000, .inl fb))] sz) [(ta, .inr (9, [.int 20, .int 0, .int (-1), .ref a3, .ref a4, .int 0, .int 0, .int 0, .int 0])), (a4, .inl (k 1, 1000, .inl f2))] tZ) (va_A [(ta, .inr (9, [.int 16, .int 0, .int (-1), .ref a3, .ref a4, .int 0, .int 0, .int 0, .int 0])), (a4, .inl (k 1, 1000, .inl fb))] sz)) 0 0 (va_A [(ta, .inr (9, [.int 16, .int 0, .int (-1), .ref a3, .ref a4, .int 0, .int 0, .int 0, .int 0])), (a4, .inl (k 1, 1000, .inl fb))] sz) := by
  refine Met.ofW (cc := cX9_append) (maxL := 3) (ret := none) (by decide +kernel) rfl ?_
  intro p e s m args below meth c s₁ B hml hv
  obtain ⟨rfl, hsz, hP, hK, hD0, hN⟩ := hv
  have hx := B.exec
  have hb := B.bytes
  have hr := B.returns
  have hts : ∀ w ∈ TT, w.before _ s = true := fun w h => atoms_spec (ws := ww yX9_append cX9_append 3 none) B.pre w (List.mem_cons_of_mem _ h)
  have hown : s.vm.findClass RX9 = some m.cls := findClass_of_methodNamed B.named
  have hlocks := B.notSynchronized
  subst hsz
  have hD := hD0.self (sz := s.heap.size)
  generalize hAe : va_A [(ta, .inr (9, [.int 16, .int 0, .int (-1), .ref a3, .ref a4, .int 0, .int 0, .int 0, .int 0])), (a4, .inl (k 1, 1000, .inl fb))] s.heap.size = A at hD ⊢
  have hA : ∀ q : Nat, s.heap.size ≤ q → A q := fun q h => by rw [← hAe]; exact Or.inr h
  have hS : va_S A s.heap s.heap [] := va_S.rf
  have hl := lv_entry ([.ref ta, .int p0]) (n := 3) (Nat.le_of_ble_eq_true rfl)
  rw [lg_entry_eq]
  generalize (lg_sl ([.ref ta, .int p0]) ++ List.replicate (3 - (lg_sl ([.ref ta, .int p0])).length) Slot.unset).toArray = ls at hl ⊢
  have hl : lv_has ls 3 [(0, .ref ta), (1, .int p0)] := hl
  refine lv_bipush (v := 24) hx hb dX9_append_0 (by decide) ?_
  refine lv_istore_n (lv' := [(2, .int 24), (0, .ref ta), (1, .int p0)]) hx hb dX9_append_2 rfl hl (by decide) rfl (fun ls hl => ?_)
  refine lv_iload_n hx hb dX9_append_3 rfl (lv_at hl 0 rfl) ?_
  refine lv_if_lt (tgt := 46) hx hb dX9_append_4 (by decide) (fun c9 => absurd c9 (by decide)) (fun _ => ?_)
  refine lv_aload_n hx hb dX9_append_7 rfl (lv_at hl 1 rfl) ?_
  refine va_get (D := D) (ci := 9) (v := .int 16) (C := RX9) (T := TX9) (N := 9) hx hb hts iT_X9 hown hK hP 0 rfl rfl 0 (by decide) (hts _ tw_1_195) (fun _ h9 => h9) rfl dX9_append_8 ?_
  refine lv_sipush (v := 1000) hx hb dX9_append_11 (by decide) ?_
  refine lv_icmp_ge (tgt := 40) hx hb dX9_append_14 (by decide) (fun c9 => absurd c9 (by decide)) (fun _ => ?_)
  refine lv_aload_n hx hb dX9_append_17 rfl (lv_at hl 1 rfl) ?_
  refine va_get (D := D) (ci := 9) (v := .ref a4) (C := RX9) (T := TX9) (N := 9) hx hb hts iT_X9 hown hK hP 0 rfl rfl 4 (by decide) (hts _ tw_1_203) (fun _ h9 => h9) rfl dX9_append_18 ?_
  refine lv_aload_n hx hb dX9_append_21 rfl (lv_at hl 1 rfl) ?_
  refine va_get (D := D) (ci := 9) (v := .int 16) (C := RX9) (T := TX9) (N := 9) hx hb hts iT_X9 hown hK hP 0 rfl rfl 0 (by decide) (hts _ tw_1_195) (fun _ h9 => h9) rfl dX9_append_22 ?_
  refine lv_iload_n hx hb dX9_append_25 rfl (lv_at hl 2 rfl) ?_
  refine lv_iload_n hx hb dX9_append_26 rfl (lv_at hl 0 rfl) ?_
  refine lv_ishr hx hb dX9_append_27 ?_
  refine lv_topi (fun x_1 ex_1 => ?_)
  refine lv_i2b (v := x_1.toInt8.toInt32) hx hb dX9_append_28 rfl ?_
  refine va_bast hx hb hK hP hD hS 1 1 rfl rfl (z_in (by decide) (by decide)) dX9_append_29 (fun H locs hP hD hS => ?_)
  have hP : va_P D vwCl [(ta, .inr (9, [.int 16, .int 0, .int (-1), .ref a3, .ref a4, .int 0, .int 0, .int 0, .int 0])), (a4, .inl (k 1, 1000, .inl (upd fb 16 (vp_nar .byte x_1.toInt8.toInt32))))] H := hP
  have hD : va_D A [(ta, .inr (9, [.int 16, .int 0, .int (-1), .ref a3, .ref a4, .int 0, .int 0, .int 0, .int 0])), (a4, .inl (k 1, 1000, .inl (upd fb 16 (vp_nar .byte x_1.toInt8.toInt32))))] := hD
  refine lv_aload_n hx hb dX9_append_30 rfl (lv_at hl 1 rfl) ?_
  refine lv_dup hx hb dX9_append_31 rfl ?_
  refine va_get (D := D) (ci := 9) (v := .int 16) (C := RX9) (T := TX9) (N := 9) hx hb hts iT_X9 hown hK hP 0 rfl rfl 0 (by decide) (hts _ tw_1_195) (fun _ h9 => h9) rfl dX9_append_32 ?_
  refine lv_iconst (v := 1) hx hb dX9_append_35 (by decide) ?_
  refine lv_iadd hx hb dX9_append_36 ?_
  refine lv_topi (fun x_3 ex_3 => ?_)
  obtain rfl : x_3 = 17 := ex_3.trans (by decide)
  refine va_put (D := D) (ci := 9) (v := .int 17) (ty := tyX9 0) (C := RX9) (T := TX9) (N := 9) hx hb hts iT_X9 tyX9 tyX9_ok nmX9 hown hK hP hD hS 0 rfl rfl 0 (by decide) (hts _ tw_1_195) (fun _ h9 => h9) rfl (tyX9_ok 0 (by decide)) rfl rfl (Nat.le_of_ble_eq_true rfl) dX9_append_37 (fun H locs hP hD hS => ?_)
  have hP : va_P D vwCl [(ta, .inr (9, [.int 17, .int 0, .int (-1), .ref a3, .ref a4, .int 0, .int 0, .int 0, .int 0])), (a4, .inl (k 1, 1000, .inl (upd fb 16 (vp_nar .byte x_1.toInt8.toInt32))))] H := hP
  have hD : va_D A [(ta, .inr (9, [.int 17, .int 0, .int (-1), .ref a3, .ref a4, .int 0, .int 0, .int 0, .int 0])), (a4, .inl (k 1, 1000, .inl (upd fb 16 (vp_nar .byte x_1.toInt8.toInt32))))] := hD
  refine lv_iinc (v := 16) (lv' := [(2, .int 16), (0, .ref ta), (1, .int p0)]) hx hb dX9_append_40 hl (k := 0) rfl (by decide) (by decide) rfl (fun ls hl => ?_)
  refine lv_goto (tgt := 3) hx hb dX9_append_43 (by decide) ?_
  refine lv_iload_n hx hb dX9_append_3 rfl (lv_at hl 0 rfl) ?_
  refine lv_if_lt (tgt := 46) hx hb dX9_append_4 (by decide) (fun c9 => absurd c9 (by decide)) (fun _ => ?_)
  refine lv_aload_n hx hb dX9_append_7 rfl (lv_at hl 1 rfl) ?_
  refine va_get (D := D) (ci := 9) (v := .int 17) (C := RX9) (T := TX9) (N := 9) hx hb hts iT_X9 hown hK hP 0 rfl rfl 0 (by decide) (hts _ tw_1_195) (fun _ h9 => h9) rfl dX9_append_8 ?_
  refine lv_sipush (v := 1000) hx hb dX9_append_11 (by decide) ?_
  refine lv_icmp_ge (tgt := 40) hx hb dX9_append_14 (by decide) (fun c9 => absurd c9 (by decide)) (fun _ => ?_)
  refine lv_aload_n hx hb dX9_append_17 rfl (lv_at hl 1 rfl) ?_
  refine va_get (D := D) (ci := 9) (v := .ref a4) (C := RX9) (T := TX9) (N := 9) hx hb hts iT_X9 hown hK hP 0 rfl rfl 4 (by decide) (hts _ tw_1_203) (fun _ h9 => h9) rfl dX9_append_18 ?_
  refine lv_aload_n hx hb dX9_append_21 rfl (lv_at hl 1 rfl) ?_
  refine va_get (D := D) (ci := 9) (v := .int 17) (C := RX9) (T := TX9) (N := 9) hx hb hts iT_X9 hown hK hP 0 rfl rfl 0 (by decide) (hts _ tw_1_195) (fun _ h9 => h9) rfl dX9_append_22 ?_
  refine lv_iload_n hx hb dX9_append_25 rfl (lv_at hl 2 rfl) ?_
  refine lv_iload_n hx hb dX9_append_26 rfl (lv_at hl 0 rfl) ?_
  refine lv_ishr hx hb dX9_append_27 ?_
  refine lv_topi (fun x_5 ex_5 => ?_)
  refine lv_i2b (v := x_5.toInt8.toInt32) hx hb dX9_append_28 rfl ?_
  refine va_bast hx hb hK hP hD hS 1 1 rfl rfl (z_in (by decide) (by decide)) dX9_append_29 (fun H locs hP hD hS => ?_)
  have hP : va_P D vwCl [(ta, .inr (9, [.int 17, .int 0, .int (-1), .ref a3, .ref a4, .int 0, .int 0, .int 0, .int 0])), (a4, .inl (k 1, 1000, .inl (upd (upd fb 16 (vp_nar .byte x_1.toInt8.toInt32)) 17 (vp_nar .byte x_5.toInt8.toInt32))))] H := hP
  have hD : va_D A [(ta, .inr (9, [.int 17, .int 0, .int (-1), .ref a3, .ref a4, .int 0, .int 0, .int 0, .int 0])), (a4, .inl (k 1, 1000, .inl (upd (upd fb 16 (vp_nar .byte x_1.toInt8.toInt32)) 17 (vp_nar .byte x_5.toInt8.toInt32))))] := hD
  refine lv_aload_n hx hb dX9_append_30 rfl (lv_at hl 1 rfl) ?_
  refine lv_dup hx hb dX9_append_31 rfl ?_
  refine va_get (D := D) (ci := 9) (v := .int 17) (C := RX9) (T := TX9) (N := 9) hx hb hts iT_X9 hown hK hP 0 rfl rfl 0 (by decide) (hts _ tw_1_195) (fun _ h9 => h9) rfl dX9_append_32 ?_
  refine lv_iconst (v := 1) hx hb dX9_append_35 (by decide) ?_
  refine lv_iadd hx hb dX9_append_36 ?_
  refine lv_topi (fun x_7 ex_7 => ?_)
  obtain rfl : x_7 = 18 := ex_7.trans (by decide)
  refine va_put (D := D) (ci := 9) (v := .int 18) (ty := tyX9 0) (C := RX9) (T := TX9) (N := 9) hx hb hts iT_X9 tyX9 tyX9_ok nmX9 hown hK hP hD hS 0 rfl rfl 0 (by decide) (hts _ tw_1_195) (fun _ h9 => h9) rfl (tyX9_ok 0 (by decide)) rfl rfl (Nat.le_of_ble_eq_true rfl) dX9_append_37 (fun H locs hP hD hS => ?_)
  have hP : va_P D vwCl [(ta, .inr (9, [.int 18, .int 0, .int (-1), .ref a3, .ref a4, .int 0, .int 0, .int 0, .int 0])), (a4, .inl (k 1, 1000, .inl (upd (upd fb 16 (vp_nar .byte x_1.toInt8.toInt32)) 17 (vp_nar .byte x_5.toInt8.toInt32))))] H := hP
  have hD : va_D A [(ta, .inr (9, [.int 18, .int 0, .int (-1), .ref a3, .ref a4, .int 0, .int 0, .int 0, .int 0])), (a4, .inl (k 1, 1000, .inl (upd (upd fb 16 (vp_nar .byte x_1.toInt8.toInt32)) 17 (vp_nar .byte x_5.toInt8.toInt32))))] := hD
  refine lv_iinc (v := 8) (lv' := [(2, .int 8), (0, .ref ta), (1, .int p0)]) hx hb dX9_append_40 hl (k := 0) rfl (by decide) (by decide) rfl (fun ls hl => ?_)
  refine lv_goto (tgt := 3) hx hb dX9_append_43 (by decide) ?_
  refine lv_iload_n hx hb dX9_append_3 rfl (lv_at hl 0 rfl) ?_
  refine lv_if_lt (tgt := 46) hx hb dX9_append_4 (by decide) (fun c9 => absurd c9 (by decide)) (fun _ => ?_)
  refine lv_aload_n hx hb dX9_append_7 rfl (lv_at hl 1 rfl) ?_
  refine va_get (D := D) (ci := 9) (v := .int 18) (C := RX9) (T := TX9) (N := 9) hx hb hts iT_X9 hown hK hP 0 rfl rfl 0 (by decide) (hts _ tw_1_195) (fun _ h9 => h9) rfl dX9_append_8 ?_
  refine lv_sipush (v := 1000) hx hb dX9_append_11 (by decide) ?_
  refine lv_icmp_ge (tgt := 40) hx hb dX9_append_14 (by decide) (fun c9 => absurd c9 (by decide)) (fun _ => ?_)
  refine lv_aload_n hx hb dX9_append_17 rfl (lv_at hl 1 rfl) ?_
  refine va_get (D := D) (ci := 9) (v := .ref a4) (C := RX9) (T := TX9) (N := 9) hx hb hts iT_X9 hown hK hP 0 rfl rfl 4 (by decide) (hts _ tw_1_203) (fun _ h9 => h9) rfl dX9_append_18 ?_
  refine lv_aload_n hx hb dX9_append_21 rfl (lv_at hl 1 rfl) ?_
  refine va_get (D := D) (ci := 9) (v := .int 18) (C := RX9) (T := TX9) (N := 9) hx hb hts iT_X9 hown hK hP 0 rfl rfl 0 (by decide) (hts _ tw_1_195) (fun _ h9 => h9) rfl dX9_append_22 ?_
  refine lv_iload_n hx hb dX9_append_25 rfl (lv_at hl 2 rfl) ?_
  refine lv_iload_n hx hb dX9_append_26 rfl (lv_at hl 0 rfl) ?_
  refine lv_ishr hx hb dX9_append_27 ?_
  refine lv_topi (fun x_9 ex_9 => ?_)
  refine lv_i2b (v := x_9.toInt8.toInt32) hx hb dX9_append_28 rfl ?_
  refine va_bast hx hb hK hP hD hS 1 1 rfl rfl (z_in (by decide) (by decide)) dX9_append_29 (fun H locs hP hD hS => ?_)
  have hP : va_P D vwCl [(ta, .inr (9, [.int 18, .int 0, .int (-1), .ref a3, .ref a4, .int 0, .int 0, .int 0, .int 0])), (a4, .inl (k 1, 1000, .inl (upd (upd (upd fb 16 (vp_nar .byte x_1.toInt8.toInt32)) 17 (vp_nar .byte x_5.toInt8.toInt32)) 18 (vp_nar .byte x_9.toInt8.toInt32))))] H := hP
  have hD : va_D A [(ta, .inr (9, [.int 18, .int 0, .int (-1), .ref a3, .ref a4, .int 0, .int 0, .int 0, .int 0])), (a4, .inl (k 1, 1000, .inl (upd (upd (upd fb 16 (vp_nar .byte x_1.toInt8.toInt32)) 17 (vp_nar .byte x_5.toInt8.toInt32)) 18 (vp_nar .byte x_9.toInt8.toInt32))))] := hD
  refine lv_aload_n hx hb dX9_append_30 rfl (lv_at hl 1 rfl) ?_
  refine lv_dup hx hb dX9_append_31 rfl ?_
  refine va_get (D := D) (ci := 9) (v := .int 18) (C := RX9) (T := TX9) (N := 9) hx hb hts iT_X9 hown hK hP 0 rfl rfl 0 (by decide) (hts _ tw_1_195) (fun _ h9 => h9) rfl dX9_append_32 ?_
  refine lv_iconst (v := 1) hx hb dX9_append_35 (by decide) ?_
  refine lv_iadd hx hb dX9_append_36 ?_
  refine lv_topi (fun x_11 ex_11 => ?_)
  obtain rfl : x_11 = 19 := ex_11.trans (by decide)
  refine va_put (D := D) (ci := 9) (v := .int 19) (ty := tyX9 0) (C := RX9) (T := TX9) (N := 9) hx hb hts iT_X9 tyX9 tyX9_ok nmX9 hown hK hP hD hS 0 rfl rfl 0 (by decide) (hts _ tw_1_195) (fun _ h9 => h9) rfl (tyX9_ok 0 (by decide)) rfl rfl (Nat.le_of_ble_eq_true rfl) dX9_append_37 (fun H locs hP hD hS => ?_)
  have hP : va_P D vwCl [(ta, .inr (9, [.int 19, .int 0, .int (-1), .ref a3, .ref a4, .int 0, .int 0, .int 0, .int 0])), (a4, .inl (k 1, 1000, .inl (upd (upd (upd fb 16 (vp_nar .byte x_1.toInt8.toInt32)) 17 (vp_nar .byte x_5.toInt8.toInt32)) 18 (vp_nar .byte x_9.toInt8.toInt32))))] H := hP
  have hD : va_D A [(ta, .inr (9, [.int 19, .int 0, .int (-1), .ref a3, .ref a4, .int 0, .int 0, .int 0, .int 0])), (a4, .inl (k 1, 1000, .inl (upd (upd (upd fb 16 (vp_nar .byte x_1.toInt8.toInt32)) 17 (vp_nar .byte x_5.toInt8.toInt32)) 18 (vp_nar .byte x_9.toInt8.toInt32))))] := hD
  refine lv_iinc (v := 0) (lv' := [(2, .int 0), (0, .ref ta), (1, .int p0)]) hx hb dX9_append_40 hl (k := 0) rfl (by decide) (by decide) rfl (fun ls hl => ?_)
  refine lv_goto (tgt := 3) hx hb dX9_append_43 (by decide) ?_
  refine lv_iload_n hx hb dX9_append_3 rfl (lv_at hl 0 rfl) ?_
  refine lv_if_lt (tgt := 46) hx hb dX9_append_4 (by decide) (fun c9 => absurd c9 (by decide)) (fun _ => ?_)
  refine lv_aload_n hx hb dX9_append_7 rfl (lv_at hl 1 rfl) ?_
  refine va_get (D := D) (ci := 9) (v := .int 19) (C := RX9) (T := TX9) (N := 9) hx hb hts iT_X9 hown hK hP 0 rfl rfl 0 (by decide) (hts _ tw_1_195) (fun _ h9 => h9) rfl dX9_append_8 ?_
  refine lv_sipush (v := 1000) hx hb dX9_append_11 (by decide) ?_
  refine lv_icmp_ge (tgt := 40) hx hb dX9_append_14 (by decide) (fun c9 => absurd c9 (by decide)) (fun _ => ?_)
  refine lv_aload_n hx hb dX9_append_17 rfl (lv_at hl 1 rfl) ?_
  refine va_get (D := D) (ci := 9) (v := .ref a4) (C := RX9) (T := TX9) (N := 9) hx hb hts iT_X9 hown hK hP 0 rfl rfl 4 (by decide) (hts _ tw_1_203) (fun _ h9 => h9) rfl dX9_append_18 ?_
  refine lv_aload_n hx hb dX9_append_21 rfl (lv_at hl 1 rfl) ?_
  refine va_get (D := D) (ci := 9) (v := .int 19) (C := RX9) (T := TX9) (N := 9) hx hb hts iT_X9 hown hK hP 0 rfl rfl 0 (by decide) (hts _ tw_1_195) (fun _ h9 => h9) rfl dX9_append_22 ?_
  refine lv_iload_n hx hb dX9_append_25 rfl (lv_at hl 2 rfl) ?_
  refine lv_iload_n hx hb dX9_append_26 rfl (lv_at hl 0 rfl) ?_
  refine lv_ishr hx hb dX9_append_27 ?_
  refine lv_topi (fun x_13 ex_13 => ?_)
  refine lv_i2b (v := x_13.toInt8.toInt32) hx hb dX9_append_28 rfl ?_
  refine va_bast hx hb hK hP hD hS 1 1 rfl rfl (z_in (by decide) (by decide)) dX9_append_29 (fun H locs hP hD hS => ?_)
  have hP : va_P D vwCl [(ta, .inr (9, [.int 19, .int 0, .int (-1), .ref a3, .ref a4, .int 0, .int 0, .int 0, .int 0])), (a4, .inl (k 1, 1000, .inl (upd (upd (upd (upd fb 16 (vp_nar .byte x_1.toInt8.toInt32)) 17 (vp_nar .byte x_5.toInt8.toInt32)) 18 (vp_nar .byte x_9.toInt8.toInt32)) 19 (vp_nar .byte x_13.toInt8.toInt32))))] H := hP
  have hD : va_D A [(ta, .inr (9, [.int 19, .int 0, .int (-1), .ref a3, .ref a4, .int 0, .int 0, .int 0, .int 0])), (a4, .inl (k 1, 1000, .inl (upd (upd (upd (upd fb 16 (vp_nar .byte x_1.toInt8.toInt32)) 17 (vp_nar .byte x_5.toInt8.toInt32)) 18 (vp_nar .byte x_9.toInt8.toInt32)) 19 (vp_nar .byte x_13.toInt8.toInt32))))] := hD
  refine lv_aload_n hx hb dX9_append_30 rfl (lv_at hl 1 rfl) ?_
  refine lv_dup hx hb dX9_append_31 rfl ?_
  refine va_get (D := D) (ci := 9) (v := .int 19) (C := RX9) (T := TX9) (N := 9) hx hb hts iT_X9 hown hK hP 0 rfl rfl 0 (by decide) (hts _ tw_1_195) (fun _ h9 => h9) rfl dX9_append_32 ?_
  refine lv_iconst (v := 1) hx hb dX9_append_35 (by decide) ?_
  refine lv_iadd hx hb dX9_append_36 ?_
  refine lv_topi (fun x_15 ex_15 => ?_)
  obtain rfl : x_15 = 20 := ex_15.trans (by decide)
  refine va_put (D := D) (ci := 9) (v := .int 20) (ty := tyX9 0) (C := RX9) (T := TX9) (N := 9) hx hb hts iT_X9 tyX9 tyX9_ok nmX9 hown hK hP hD hS 0 rfl rfl 0 (by decide) (hts _ tw_1_195) (fun _ h9 => h9) rfl (tyX9_ok 0 (by decide)) rfl rfl (Nat.le_of_ble_eq_true rfl) dX9_append_37 (fun H locs hP hD hS => ?_)
  have hP : va_P D vwCl [(ta, .inr (9, [.int 20, .int 0, .int (-1), .ref a3, .ref a4, .int 0, .int 0, .int 0, .int 0])), (a4, .inl (k 1, 1000, .inl (upd (upd (upd (upd fb 16 (vp_nar .byte x_1.toInt8.toInt32)) 17 (vp_nar .byte x_5.toInt8.toInt32)) 18 (vp_nar .byte x_9.toInt8.toInt32)) 19 (vp_nar .byte x_13.toInt8.toInt32))))] H := hP
  have hD : va_D A [(ta, .inr (9, [.int 20, .int 0, .int (-1), .ref a3, .ref a4, .int 0, .int 0, .int 0, .int 0])), (a4, .inl (k 1, 1000, .inl (upd (upd (upd (upd fb 16 (vp_nar .byte x_1.toInt8.toInt32)) 17 (vp_nar .byte x_5.toInt8.toInt32)) 18 (vp_nar .byte x_9.toInt8.toInt32)) 19 (vp_nar .byte x_13.toInt8.toInt32))))] := hD
  refine lv_iinc (v := (-8)) (lv' := [(2, .int (-8)), (0, .ref ta), (1, .int p0)]) hx hb dX9_append_40 hl (k := 0) rfl (by decide) (by decide) rfl (fun ls hl => ?_)
  refine lv_goto (tgt := 3) hx hb dX9_append_43 (by decide) ?_
  refine lv_iload_n hx hb dX9_append_3 rfl (lv_at hl 0 rfl) ?_
  refine lv_if_lt (tgt := 46) hx hb dX9_append_4 (by decide) (fun _ => ?_) (fun c9 => absurd c9 (by decide))
  have hP9 := hP.sub (ws' := [(ta, .inr (9, [.int 20, .int 0, .int (-1), .ref a3, .ref a4, .int 0, .int 0, .int 0, .int 0])), (a4, .inl (k 1, 1000, .inl (upd (upd (upd (upd fb 16 (vp_nar .byte x_1.toInt8.toInt32)) 17 (vp_nar .byte x_5.toInt8.toInt32)) 18 (vp_nar .byte x_9.toInt8.toInt32)) 19 (vp_nar .byte x_13.toInt8.toInt32))))]) [0, 1] rfl
  have hD9 := hD.sub (ws' := [(ta, .inr (9, [.int 20, .int 0, .int (-1), .ref a3, .ref a4, .int 0, .int 0, .int 0, .int 0])), (a4, .inl (k 1, 1000, .inl (upd (upd (upd (upd fb 16 (vp_nar .byte x_1.toInt8.toInt32)) 17 (vp_nar .byte x_5.toInt8.toInt32)) 18 (vp_nar .byte x_9.toInt8.toInt32)) 19 (vp_nar .byte x_13.toInt8.toInt32))))]) [0, 1] (by decide) rfl
  exact W.vret hx hb hr (fun tZ ht hW => ⟨⟨upd (upd (upd (upd fb 16 (vp_nar .byte x_1.toInt8.toInt32)) 17 (vp_nar .byte x_5.toInt8.toInt32)) 18 (vp_nar .byte x_9.toInt8.toInt32)) 19 (vp_nar .byte x_13.toInt8.toInt32), rfl, trivial, by rw [ht]; exact hP9, va_K.moved hW.alike hK, hD9⟩, hS.F ht⟩) hS.2.2 dX9_append_46
set_option maxHeartbeats 4000000 in
set_option maxRecDepth 100000 in
theorem c_X11_feed (l : Launch) (D : va_G) (k : Nat → ClassId) (g : Nat) (g0 : Nat) (g1 : Nat) (g2 : Nat) (g4 : Nat) (g5 : Nat) (g6 : Nat) (g7 : Nat) (g8 : Nat) (g9 : Nat) (g10 : Nat) (g11 : Nat) (g12 : Nat) (a3 : Nat) (a4 : Nat) (fb : Nat → Int32) (p0 : Int32) (p1 : Int32) (p2 : Int32) (p3 : Int32) (p4 : Int32) (sz : Nat) : Met l yX11_feed (ww yX11_feed cX11_feed 6 (some .int)) ({ frames := 1, cells := 0, slots := 0, locals := 22 }) (Pre0 D k [(g, .inr (11, [.ref g0, .ref g1, .ref g2, .int 0, .ref g4, .ref g5, .ref g6, .ref g7, .ref g8, .ref g9, .ref g10, .ref g11, .ref g12])), (g0, .inr (9, [.int 0, .int 0, .int (-1), .ref a3, .ref a4, .int 0, .int 0, .int 0, .int 0])), (a4, .inl (k 1, 1000, .inl fb))] sz [.ref g, .int p0, .int p1, .int p2, .int p3, .int p4]) (va_Qi (fun (r : Int32) (_ : Unit) => r = 20) (fun (_ : Unit) tZ => Bw D k (va_A [(g, .inr (11, [.ref g0, .ref g1, .ref g2, .int 0, .ref g4, .ref g5, .ref g6, .ref g7, .ref g8, .ref g9, .ref g10, .ref g11, .ref g12])), (g0, .inr (9, [.int 0, .int 0, .int (-1), .ref a3, .ref a4, .int 0, .int 0, .int 0, .int 0])), (a4, .inl (k 1, 1000, .inl fb))] sz) [] tZ) (va_A [(g, .inr (11, [.ref g0, .ref g1, .ref g2, .int 0, .ref g4, .ref g5, .ref g6, .ref g7, .ref g8, .ref g9, .ref g10, .ref g11, .ref g12])), (g0, .inr (9, [.int 0, .int 0, .int (-1), .ref a3, .ref a4, .int 0, .int 0, .int 0, .int 0])), (a4, .inl (k 1, 1000, .inl fb))] sz)) 0 0 (va_A [(g, .inr (11, [.ref g0, .ref g1, .ref g2, .int 0, .ref g4, .ref g5, .ref g6, .ref g7, .ref g8, .ref g9, .ref g10, .ref g11, .ref g12])), (g0, .inr (9, [.int 0, .int 0, .int (-1), .ref a3, .ref a4, .int 0, .int 0, .int 0, .int 0])), (a4, .inl (k 1, 1000, .inl fb))] sz) := by
  refine Met.ofW (cc := cX11_feed) (maxL := 6) (ret := (some .int)) (by decide +kernel) rfl ?_
  intro p e s m args below meth c s₁ B hml hv
  obtain ⟨rfl, hsz, hP, hK, hD0, hN⟩ := hv
  have hx := B.exec
  have hb := B.bytes
  have hr := B.returns
  have hts : ∀ w ∈ TT, w.before _ s = true := fun w h => atoms_spec (ws := ww yX11_feed cX11_feed 6 (some .int)) B.pre w (List.mem_cons_of_mem _ h)
  have hown : s.vm.findClass RX11 = some m.cls := findClass_of_methodNamed B.named
  have hlocks := B.notSynchronized
  subst hsz
  have hD := hD0.self (sz := s.heap.size)
  generalize hAe : va_A [(g, .inr (11, [.ref g0, .ref g1, .ref g2, .int 0, .ref g4, .ref g5, .ref g6, .ref g7, .ref g8, .ref g9, .ref g10, .ref g11, .ref g12])), (g0, .inr (9, [.int 0, .int 0, .int (-1), .ref a3, .ref a4, .int 0, .int 0, .int 0, .int 0])), (a4, .inl (k 1, 1000, .inl fb))] s.heap.size = A at hD ⊢
  have hA : ∀ q : Nat, s.heap.size ≤ q → A q := fun q h => by rw [← hAe]; exact Or.inr h
  have hS : va_S A s.heap s.heap [] := va_S.rf
  have hl := lv_entry ([.ref g, .int p0, .int p1, .int p2, .int p3, .int p4]) (n := 6) (Nat.le_of_ble_eq_true rfl)
  rw [lg_entry_eq]
  generalize (lg_sl ([.ref g, .int p0, .int p1, .int p2, .int p3, .int p4]) ++ List.replicate (6 - (lg_sl ([.ref g, .int p0, .int p1, .int p2, .int p3, .int p4])).length) Slot.unset).toArray = ls at hl ⊢
  have hl : lv_has ls 6 [(0, .ref g), (1, .int p0), (2, .int p1), (3, .int p2), (4, .int p3), (5, .int p4)] := hl
  refine lv_aload_n hx hb dX11_feed_0 rfl (lv_at hl 0 rfl) ?_
  refine va_get (D := D) (ci := 11) (v := .ref g0) (C := RX11) (T := TX11) (N := 13) hx hb hts iT_X11 hown hK hP 0 rfl rfl 0 (by decide) (hts _ tw_2_170) (fun _ h9 => h9) rfl dX11_feed_1 ?_
  have hPc := hP.sub (ws' := [(g0, .inr (9, [.int 0, .int 0, .int (-1), .ref a3, .ref a4, .int 0, .int 0, .int 0, .int 0]))]) [1] rfl
  have hDc := hD.sub (ws' := [(g0, .inr (9, [.int 0, .int 0, .int (-1), .ref a3, .ref a4, .int 0, .int 0, .int 0, .int 0]))]) [1] (by decide) rfl
  have hFc := va_free (wc := [(g0, .inr (9, [.int 0, .int 0, .int (-1), .ref a3, .ref a4, .int 0, .int 0, .int 0, .int 0]))]) hD hS hA [1] rfl
  refine va_calli (va_runV (C := RX9) (As := []) (rest := []) ⟨hx, hb, hml, hown, hts⟩ (c_X9_hasRoom l D k g0 a3 a4 s.heap.size) (cwV 0 hts (gV tw_2_214 tw_2_215 tw_2_216 tw_1_2 tw_2_217) rfl rfl rfl hdV_X9_hasRoom ⟨Nat.le_of_ble_eq_true rfl, Nat.le_of_ble_eq_true rfl⟩) (cz_V hK hPc hDc hN (ci := 9) (q0 := 0) rfl rfl []) rfl rfl hl.1 rfl (lv_room (Nat.le_of_ble_eq_true rfl)) dX11_feed_4 ⟨Nat.le_of_ble_eq_true rfl, Nat.le_of_ble_eq_true rfl⟩) hS (fun q _ h => hFc q h) hFc (fun r_1 uZ tZ H1 locs ht hvm hw hB hz1 hk1 hS => ?_)
  obtain ⟨hP1, hK1, hD1⟩ := hB
  rw [ht] at hP1
  obtain ⟨hP, hD⟩ := va_join (wr := [(g, .inr (11, [.ref g0, .ref g1, .ref g2, .int 0, .ref g4, .ref g5, .ref g6, .ref g7, .ref g8, .ref g9, .ref g10, .ref g11, .ref g12])), (a4, .inl (k 1, 1000, .inl fb))]) (w1 := [(g0, .inr (9, [.int 0, .int 0, .int (-1), .ref a3, .ref a4, .int 0, .int 0, .int 0, .int 0]))]) hP hD [1] [0, 2] rfl rfl (by decide) (by decide) hk1 hFc hP1 hD1
  clear hK1 hP1 hD1 hPc hDc hFc
  clear hk1 hz1 ht hvm
  have hP : va_P D vwCl [(g, .inr (11, [.ref g0, .ref g1, .ref g2, .int 0, .ref g4, .ref g5, .ref g6, .ref g7, .ref g8, .ref g9, .ref g10, .ref g11, .ref g12])), (a4, .inl (k 1, 1000, .inl fb)), (g0, .inr (9, [.int 0, .int 0, .int (-1), .ref a3, .ref a4, .int 0, .int 0, .int 0, .int 0]))] H1 := hP
  have hD : va_D A [(g, .inr (11, [.ref g0, .ref g1, .ref g2, .int 0, .ref g4, .ref g5, .ref g6, .ref g7, .ref g8, .ref g9, .ref g10, .ref g11, .ref g12])), (a4, .inl (k 1, 1000, .inl fb)), (g0, .inr (9, [.int 0, .int 0, .int (-1), .ref a3, .ref a4, .int 0, .int 0, .int 0, .int 0]))] := hD
  generalize H1 = H at hP hS ⊢
  obtain rfl : r_1 = 1 := hw
  refine lv_if_ne (tgt := 12) hx hb dX11_feed_7 (by decide) (fun _ => ?_) (fun c9 => absurd c9 (by decide))
  refine lv_aload_n hx hb dX11_feed_12 rfl (lv_at hl 0 rfl) ?_
  refine va_get (D := D) (ci := 11) (v := .ref g0) (C := RX11) (T := TX11) (N := 13) hx hb hts iT_X11 hown hK hP 0 rfl rfl 0 (by decide) (hts _ tw_2_170) (fun _ h9 => h9) rfl dX11_feed_13 ?_
  refine lv_iload_n hx hb dX11_feed_16 rfl (lv_at hl 1 rfl) ?_
  have hPc := hP.sub (ws' := [(g0, .inr (9, [.int 0, .int 0, .int (-1), .ref a3, .ref a4, .int 0, .int 0, .int 0, .int 0])), (a4, .inl (k 1, 1000, .inl fb))]) [2, 1] rfl
  have hDc := hD.sub (ws' := [(g0, .inr (9, [.int 0, .int 0, .int (-1), .ref a3, .ref a4, .int 0, .int 0, .int 0, .int 0])), (a4, .inl (k 1, 1000, .inl fb))]) [2, 1] (by decide) rfl
  have hFc := va_free (wc := [(g0, .inr (9, [.int 0, .int 0, .int (-1), .ref a3, .ref a4, .int 0, .int 0, .int 0, .int 0])), (a4, .inl (k 1, 1000, .inl fb))]) hD hS hA [2, 1] rfl
  refine va_callv (va_runV (C := RX9) (As := [.int p0]) (rest := []) ⟨hx, hb, hml, hown, hts⟩ (c_X9_append_0 l D k g0 a3 a4 fb p0 H.size) (cwV 1 hts (gV tw_2_218 tw_2_219 tw_2_220 tw_1_2 tw_2_221) rfl rfl rfl hdV_X9_append ⟨Nat.le_of_ble_eq_true rfl, Nat.le_of_ble_eq_true rfl⟩) (cz_V hK hPc hDc hN (ci := 9) (q0 := 0) rfl rfl [.int p0]) rfl rfl hl.1 rfl (lv_room (Nat.le_of_ble_eq_true rfl)) dX11_feed_17 ⟨Nat.le_of_ble_eq_true rfl, Nat.le_of_ble_eq_true rfl⟩) hS (fun q _ h => hFc q h) hFc (fun uZ tZ H1 locs ht hvm hw hB hz1 hk1 hS => ?_)
  obtain ⟨o_3, rfl⟩ : ∃ z, z = uZ := ⟨_, rfl⟩
  obtain ⟨hP1, hK1, hD1⟩ := hB
  rw [ht] at hP1
  obtain ⟨hP, hD⟩ := va_join (wr := [(g, .inr (11, [.ref g0, .ref g1, .ref g2, .int 0, .ref g4, .ref g5, .ref g6, .ref g7, .ref g8, .ref g9, .ref g10, .ref g11, .ref g12]))]) (w1 := [(g0, .inr (9, [.int 4, .int 0, .int (-1), .ref a3, .ref a4, .int 0, .int 0, .int 0, .int 0])), (a4, .inl (k 1, 1000, .inl o_3))]) hP hD [2, 1] [0] rfl rfl (by decide) (by decide) hk1 hFc hP1 hD1
  clear hK1 hP1 hD1 hPc hDc hFc
  clear hk1 hz1 ht hvm
  have hP : va_P D vwCl [(g, .inr (11, [.ref g0, .ref g1, .ref g2, .int 0, .ref g4, .ref g5, .ref g6, .ref g7, .ref g8, .ref g9, .ref g10, .ref g11, .ref g12])), (g0, .inr (9, [.int 4, .int 0, .int (-1), .ref a3, .ref a4, .int 0, .int 0, .int 0, .int 0])), (a4, .inl (k 1, 1000, .inl o_3))] H1 := hP
  have hD : va_D A [(g, .inr (11, [.ref g0, .ref g1, .ref g2, .int 0, .ref g4, .ref g5, .ref g6, .ref g7, .ref g8, .ref g9, .ref g10, .ref g11, .ref g12])), (g0, .inr (9, [.int 4, .int 0, .int (-1), .ref a3, .ref a4, .int 0, .int 0, .int 0, .int 0])), (a4, .inl (k 1, 1000, .inl o_3))] := hD
  generalize H1 = H at hP hS ⊢
  clear hw
  refine lv_aload_n hx hb dX11_feed_20 rfl (lv_at hl 0 rfl) ?_
  refine va_get (D := D) (ci := 11) (v := .ref g0) (C := RX11) (T := TX11) (N := 13) hx hb hts iT_X11 hown hK hP 0 rfl rfl 0 (by decide) (hts _ tw_2_170) (fun _ h9 => h9) rfl dX11_feed_21 ?_
  refine lv_iload_n hx hb dX11_feed_24 rfl (lv_at hl 2 rfl) ?_
  have hPc := hP.sub (ws' := [(g0, .inr (9, [.int 4, .int 0, .int (-1), .ref a3, .ref a4, .int 0, .int 0, .int 0, .int 0])), (a4, .inl (k 1, 1000, .inl o_3))]) [1, 2] rfl
  have hDc := hD.sub (ws' := [(g0, .inr (9, [.int 4, .int 0, .int (-1), .ref a3, .ref a4, .int 0, .int 0, .int 0, .int 0])), (a4, .inl (k 1, 1000, .inl o_3))]) [1, 2] (by decide) rfl
  have hFc := va_free (wc := [(g0, .inr (9, [.int 4, .int 0, .int (-1), .ref a3, .ref a4, .int 0, .int 0, .int 0, .int 0])), (a4, .inl (k 1, 1000, .inl o_3))]) hD hS hA [1, 2] rfl
  refine va_callv (va_runV (C := RX9) (As := [.int p1]) (rest := []) ⟨hx, hb, hml, hown, hts⟩ (c_X9_append_4 l D k g0 a3 a4 o_3 p1 H.size) (cwV 1 hts (gV tw_2_218 tw_2_219 tw_2_220 tw_1_2 tw_2_221) rfl rfl rfl hdV_X9_append ⟨Nat.le_of_ble_eq_true rfl, Nat.le_of_ble_eq_true rfl⟩) (cz_V hK hPc hDc hN (ci := 9) (q0 := 0) rfl rfl [.int p1]) rfl rfl hl.1 rfl (lv_room (Nat.le_of_ble_eq_true rfl)) dX11_feed_25 ⟨Nat.le_of_ble_eq_true rfl, Nat.le_of_ble_eq_true rfl⟩) hS (fun q _ h => hFc q h) hFc (fun uZ tZ H1 locs ht hvm hw hB hz1 hk1 hS => ?_)
  obtain ⟨o_6, rfl⟩ : ∃ z, z = uZ := ⟨_, rfl⟩
  obtain ⟨hP1, hK1, hD1⟩ := hB
  rw [ht] at hP1
  obtain ⟨hP, hD⟩ := va_join (wr := [(g, .inr (11, [.ref g0, .ref g1, .ref g2, .int 0, .ref g4, .ref g5, .ref g6, .ref g7, .ref g8, .ref g9, .ref g10, .ref g11, .ref g12]))]) (w1 := [(g0, .inr (9, [.int 8, .int 0, .int (-1), .ref a3, .ref a4, .int 0, .int 0, .int 0, .int 0])), (a4, .inl (k 1, 1000, .inl o_6))]) hP hD [1, 2] [0] rfl rfl (by decide) (by decide) hk1 hFc hP1 hD1
  clear hK1 hP1 hD1 hPc hDc hFc
  clear hk1 hz1 ht hvm
  have hP : va_P D vwCl [(g, .inr (11, [.ref g0, .ref g1, .ref g2, .int 0, .ref g4, .ref g5, .ref g6, .ref g7, .ref g8, .ref g9, .ref g10, .ref g11, .ref g12])), (g0, .inr (9, [.int 8, .int 0, .int (-1), .ref a3, .ref a4, .int 0, .int 0, .int 0, .int 0])), (a4, .inl (k 1, 1000, .inl o_6))] H1 := hP
  have hD : va_D A [(g, .inr (11, [.ref g0, .ref g1, .ref g2, .int 0, .ref g4, .ref g5, .ref g6, .ref g7, .ref g8, .ref g9, .ref g10, .ref g11, .ref g12])), (g0, .inr (9, [.int 8, .int 0, .int (-1), .ref a3, .ref a4, .int 0, .int 0, .int 0, .int 0])), (a4, .inl (k 1, 1000, .inl o_6))] := hD
  generalize H1 = H at hP hS ⊢
  clear hw
  refine lv_aload_n hx hb dX11_feed_28 rfl (lv_at hl 0 rfl) ?_
  refine va_get (D := D) (ci := 11) (v := .ref g0) (C := RX11) (T := TX11) (N := 13) hx hb hts iT_X11 hown hK hP 0 rfl rfl 0 (by decide) (hts _ tw_2_170) (fun _ h9 => h9) rfl dX11_feed_29 ?_
  refine lv_iload_n hx hb dX11_feed_32 rfl (lv_at hl 3 rfl) ?_
  have hPc := hP.sub (ws' := [(g0, .inr (9, [.int 8, .int 0, .int (-1), .ref a3, .ref a4, .int 0, .int 0, .int 0, .int 0])), (a4, .inl (k 1, 1000, .inl o_6))]) [1, 2] rfl
  have hDc := hD.sub (ws' := [(g0, .inr (9, [.int 8, .int 0, .int (-1), .ref a3, .ref a4, .int 0, .int 0, .int 0, .int 0])), (a4, .inl (k 1, 1000, .inl o_6))]) [1, 2] (by decide) rfl
  have hFc := va_free (wc := [(g0, .inr (9, [.int 8, .int 0, .int (-1), .ref a3, .ref a4, .int 0, .int 0, .int 0, .int 0])), (a4, .inl (k 1, 1000, .inl o_6))]) hD hS hA [1, 2] rfl
  refine va_callv (va_runV (C := RX9) (As := [.int p2]) (rest := []) ⟨hx, hb, hml, hown, hts⟩ (c_X9_append_8 l D k g0 a3 a4 o_6 p2 H.size) (cwV 1 hts (gV tw_2_218 tw_2_219 tw_2_220 tw_1_2 tw_2_221) rfl rfl rfl hdV_X9_append ⟨Nat.le_of_ble_eq_true rfl, Nat.le_of_ble_eq_true rfl⟩) (cz_V hK hPc hDc hN (ci := 9) (q0 := 0) rfl rfl [.int p2]) rfl rfl hl.1 rfl (lv_room (Nat.le_of_ble_eq_true rfl)) dX11_feed_33 ⟨Nat.le_of_ble_eq_true rfl, Nat.le_of_ble_eq_true rfl⟩) hS (fun q _ h => hFc q h) hFc (fun uZ tZ H1 locs ht hvm hw hB hz1 hk1 hS => ?_)
  obtain ⟨o_9, rfl⟩ : ∃ z, z = uZ := ⟨_, rfl⟩
  obtain ⟨hP1, hK1, hD1⟩ := hB
  rw [ht] at hP1
  obtain ⟨hP, hD⟩ := va_join (wr := [(g, .inr (11, [.ref g0, .ref g1, .ref g2, .int 0, .ref g4, .ref g5, .ref g6, .ref g7, .ref g8, .ref g9, .ref g10, .ref g11, .ref g12]))]) (w1 := [(g0, .inr (9, [.int 12, .int 0, .int (-1), .ref a3, .ref a4, .int 0, .int 0, .int 0, .int 0])), (a4, .inl (k 1, 1000, .inl o_9))]) hP hD [1, 2] [0] rfl rfl (by decide) (by decide) hk1 hFc hP1 hD1
  clear hK1 hP1 hD1 hPc hDc hFc
  clear hk1 hz1 ht hvm
  have hP : va_P D vwCl [(g, .inr (11, [.ref g0, .ref g1, .ref g2, .int 0, .ref g4, .ref g5, .ref g6, .ref g7, .ref g8, .ref g9, .ref g10, .ref g11, .ref g12])), (g0, .inr (9, [.int 12, .int 0, .int (-1), .ref a3, .ref a4, .int 0, .int 0, .int 0, .int 0])), (a4, .inl (k 1, 1000, .inl o_9))] H1 := hP
  have hD : va_D A [(g, .inr (11, [.ref g0, .ref g1, .ref g2, .int 0, .ref g4, .ref g5, .ref g6, .ref g7, .ref g8, .ref g9, .ref g10, .ref g11, .ref g12])), (g0, .inr (9, [.int 12, .int 0, .int (-1), .ref a3, .ref a4, .int 0, .int 0, .int 0, .int 0])), (a4, .inl (k 1, 1000, .inl o_9))] := hD
  generalize H1 = H at hP hS ⊢
  clear hw
  refine lv_aload_n hx hb dX11_feed_36 rfl (lv_at hl 0 rfl) ?_
  refine va_get (D := D) (ci := 11) (v := .ref g0) (C := RX11) (T := TX11) (N := 13) hx hb hts iT_X11 hown hK hP 0 rfl rfl 0 (by decide) (hts _ tw_2_170) (fun _ h9 => h9) rfl dX11_feed_37 ?_
  refine lv_iload hx hb dX11_feed_40 (lv_at hl 4 rfl) ?_
  have hPc := hP.sub (ws' := [(g0, .inr (9, [.int 12, .int 0, .int (-1), .ref a3, .ref a4, .int 0, .int 0, .int 0, .int 0])), (a4, .inl (k 1, 1000, .inl o_9))]) [1, 2] rfl
  have hDc := hD.sub (ws' := [(g0, .inr (9, [.int 12, .int 0, .int (-1), .ref a3, .ref a4, .int 0, .int 0, .int 0, .int 0])), (a4, .inl (k 1, 1000, .inl o_9))]) [1, 2] (by decide) rfl
  have hFc := va_free (wc := [(g0, .inr (9, [.int 12, .int 0, .int (-1), .ref a3, .ref a4, .int 0, .int 0, .int 0, .int 0])), (a4, .inl (k 1, 1000, .inl o_9))]) hD hS hA [1, 2] rfl
  refine va_callv (va_runV (C := RX9) (As := [.int p3]) (rest := []) ⟨hx, hb, hml, hown, hts⟩ (c_X9_append_12 l D k g0 a3 a4 o_9 p3 H.size) (cwV 1 hts (gV tw_2_218 tw_2_219 tw_2_220 tw_1_2 tw_2_221) rfl rfl rfl hdV_X9_append ⟨Nat.le_of_ble_eq_true rfl, Nat.le_of_ble_eq_true rfl⟩) (cz_V hK hPc hDc hN (ci := 9) (q0 := 0) rfl rfl [.int p3]) rfl rfl hl.1 rfl (lv_room (Nat.le_of_ble_eq_true rfl)) dX11_feed_42 ⟨Nat.le_of_ble_eq_true rfl, Nat.le_of_ble_eq_true rfl⟩) hS (fun q _ h => hFc q h) hFc (fun uZ tZ H1 locs ht hvm hw hB hz1 hk1 hS => ?_)
  obtain ⟨o_12, rfl⟩ : ∃ z, z = uZ := ⟨_, rfl⟩
  obtain ⟨hP1, hK1, hD1⟩ := hB
  rw [ht] at hP1
  obtain ⟨hP, hD⟩ := va_join (wr := [(g, .inr (11, [.ref g0, .ref g1, .ref g2, .int 0, .ref g4, .ref g5, .ref g6, .ref g7, .ref g8, .ref g9, .ref g10, .ref g11, .ref g12]))]) (w1 := [(g0, .inr (9, [.int 16, .int 0, .int (-1), .ref a3, .ref a4, .int 0, .int 0, .int 0, .int 0])), (a4, .inl (k 1, 1000, .inl o_12))]) hP hD [1, 2] [0] rfl rfl (by decide) (by decide) hk1 hFc hP1 hD1
  clear hK1 hP1 hD1 hPc hDc hFc
  clear hk1 hz1 ht hvm
  have hP : va_P D vwCl [(g, .inr (11, [.ref g0, .ref g1, .ref g2, .int 0, .ref g4, .ref g5, .ref g6, .ref g7, .ref g8, .ref g9, .ref g10, .ref g11, .ref g12])), (g0, .inr (9, [.int 16, .int 0, .int (-1), .ref a3, .ref a4, .int 0, .int 0, .int 0, .int 0])), (a4, .inl (k 1, 1000, .inl o_12))] H1 := hP
  have hD : va_D A [(g, .inr (11, [.ref g0, .ref g1, .ref g2, .int 0, .ref g4, .ref g5, .ref g6, .ref g7, .ref g8, .ref g9, .ref g10, .ref g11, .ref g12])), (g0, .inr (9, [.int 16, .int 0, .int (-1), .ref a3, .ref a4, .int 0, .int 0, .int 0, .int 0])), (a4, .inl (k 1, 1000, .inl o_12))] := hD
  generalize H1 = H at hP hS ⊢
  clear hw
  refine lv_aload_n hx hb dX11_feed_45 rfl (lv_at hl 0 rfl) ?_
  refine va_get (D := D) (ci := 11) (v := .ref g0) (C := RX11) (T := TX11) (N := 13) hx hb hts iT_X11 hown hK hP 0 rfl rfl 0 (by decide) (hts _ tw_2_170) (fun _ h9 => h9) rfl dX11_feed_46 ?_
  refine lv_iload hx hb dX11_feed_49 (lv_at hl 5 rfl) ?_
  have hPc := hP.sub (ws' := [(g0, .inr (9, [.int 16, .int 0, .int (-1), .ref a3, .ref a4, .int 0, .int 0, .int 0, .int 0])), (a4, .inl (k 1, 1000, .inl o_12))]) [1, 2] rfl
  have hDc := hD.sub (ws' := [(g0, .inr (9, [.int 16, .int 0, .int (-1), .ref a3, .ref a4, .int 0, .int 0, .int 0, .int 0])), (a4, .inl (k 1, 1000, .inl o_12))]) [1, 2] (by decide) rfl
  have hFc := va_free (wc := [(g0, .inr (9, [.int 16, .int 0, .int (-1), .ref a3, .ref a4, .int 0, .int 0, .int 0, .int 0])), (a4, .inl (k 1, 1000, .inl o_12))]) hD hS hA [1, 2] rfl
  refine va_callv (va_runV (C := RX9) (As := [.int p4]) (rest := []) ⟨hx, hb, hml, hown, hts⟩ (c_X9_append_16 l D k g0 a3 a4 o_12 p4 H.size) (cwV 1 hts (gV tw_2_218 tw_2_219 tw_2_220 tw_1_2 tw_2_221) rfl rfl rfl hdV_X9_append ⟨Nat.le_of_ble_eq_true rfl, Nat.le_of_ble_eq_true rfl⟩) (cz_V hK hPc hDc hN (ci := 9) (q0 := 0) rfl rfl [.int p4]) rfl rfl hl.1 rfl (lv_room (Nat.le_of_ble_eq_true rfl)) dX11_feed_51 ⟨Nat.le_of_ble_eq_true rfl, Nat.le_of_ble_eq_true rfl⟩) hS (fun q _ h => hFc q h) hFc (fun uZ tZ H1 locs ht hvm hw hB hz1 hk1 hS => ?_)
  obtain ⟨o_15, rfl⟩ : ∃ z, z = uZ := ⟨_, rfl⟩
  obtain ⟨hP1, hK1, hD1⟩ := hB
  rw [ht] at hP1
  obtain ⟨hP, hD⟩ := va_join (wr := [(g, .inr (11, [.ref g0, .ref g1, .ref g2, .int 0, .ref g4, .ref g5, .ref g6, .ref g7, .ref g8, .ref g9, .ref g10, .ref g11, .ref g12]))]) (w1 := [(g0, .inr (9, [.int 20, .int 0, .int (-1), .ref a3, .ref a4, .int 0, .int 0, .int 0, .int 0])), (a4, .inl (k 1, 1000, .inl o_15))]) hP hD [1, 2] [0] rfl rfl (by decide) (by decide) hk1 hFc hP1 hD1
  clear hK1 hP1 hD1 hPc hDc hFc
  clear hk1 hz1 ht hvm
  have hP : va_P D vwCl [(g, .inr (11, [.ref g0, .ref g1, .ref g2, .int 0, .ref g4, .ref g5, .ref g6, .ref g7, .ref g8, .ref g9, .ref g10, .ref g11, .ref g12])), (g0, .inr (9, [.int 20, .int 0, .int (-1), .ref a3, .ref a4, .int 0, .int 0, .int 0, .int 0])), (a4, .inl (k 1, 1000, .inl o_15))] H1 := hP
  have hD : va_D A [(g, .inr (11, [.ref g0, .ref g1, .ref g2, .int 0, .ref g4, .ref g5, .ref g6, .ref g7, .ref g8, .ref g9, .ref g10, .ref g11, .ref g12])), (g0, .inr (9, [.int 20, .int 0, .int (-1), .ref a3, .ref a4, .int 0, .int 0, .int 0, .int 0])), (a4, .inl (k 1, 1000, .inl o_15))] := hD
  generalize H1 = H at hP hS ⊢
  clear hw
  refine lv_aload_n hx hb dX11_feed_54 rfl (lv_at hl 0 rfl) ?_
  refine va_get (D := D) (ci := 11) (v := .ref g0) (C := RX11) (T := TX11) (N := 13) hx hb hts iT_X11 hown hK hP 0 rfl rfl 0 (by decide) (hts _ tw_2_170) (fun _ h9 => h9) rfl dX11_feed_55 ?_
  refine va_get (D := D) (ci := 9) (v := .int 20) (C := RX9) (T := TX9) (N := 9) hx hb hts iT_X9 hown hK hP 1 rfl rfl 0 (by decide) (hts _ tw_1_196) (fun _ h9 => h9) rfl dX11_feed_58 ?_
  have hP9 := hP.sub (ws' := []) [] rfl
  have hD9 := hD.sub (ws' := []) [] (by decide) rfl
  exact W.iret (v := 20) hx hb hr (fun tZ ht hW => ⟨⟨20, (), rfl, rfl, by rw [ht]; exact hP9, va_K.moved hW.alike hK, hD9⟩, hS.F ht⟩) hS.2.2 dX11_feed_61
set_option maxHeartbeats 4000000 in
set_option maxRecDepth 100000 in
theorem c_X11_end (l : Launch) (D : va_G) (k : Nat → ClassId) (g : Nat) (g0 : Nat) (g1 : Nat) (g2 : Nat) (g4 : Nat) (g5 : Nat) (g6 : Nat) (g7 : Nat) (g8 : Nat) (g9 : Nat) (g10 : Nat) (g11 : Nat) (g12 : Nat) (a3 : Nat) (a4 : Nat) (p0 : Int32) (sz : Nat) : Met l yX11_end (ww yX11_end cX11_end 2 (some .int)) ({ frames := 0, cells := 0, slots := 0, locals := 0 }) (Pre0 D k [(g, .inr (11, [.ref g0, .ref g1, .ref g2, .int 0, .ref g4, .ref g5, .ref g6, .ref g7, .ref g8, .ref g9, .ref g10, .ref g11, .ref g12])), (g0, .inr (9, [.int 0, .int 0, .int (-1), .ref a3, .ref a4, .int 0, .int 0, .int 0, .int 0]))] sz [.ref g, .int p0]) (va_Qi (fun (r : Int32) (_ : Unit) => r = sp_end p0) (fun (_ : Unit) tZ => Bw D k (va_A [(g, .inr (11, [.ref g0, .ref g1, .ref g2, .int 0, .ref g4, .ref g5, .ref g6, .ref g7, .ref g8, .ref g9, .ref g10, .ref g11, .ref g12])), (g0, .inr (9, [.int 0, .int 0, .int (-1), .ref a3, .ref a4, .int 0, .int 0, .int 0, .int 0]))] sz) [] tZ) (va_A [(g, .inr (11, [.ref g0, .ref g1, .ref g2, .int 0, .ref g4, .ref g5, .ref g6, .ref g7, .ref g8, .ref g9, .ref g10, .ref g11, .ref g12])), (g0, .inr (9, [.int 0, .int 0, .int (-1), .ref a3, .ref a4, .int 0, .int 0, .int 0, .int 0]))] sz)) 0 0 (va_A [(g, .inr (11, [.ref g0, .ref g1, .ref g2, .int 0, .ref g4, .ref g5, .ref g6, .ref g7, .ref g8, .ref g9, .ref g10, .ref g11, .ref g12])), (g0, .inr (9, [.int 0, .int 0, .int (-1), .ref a3, .ref a4, .int 0, .int 0, .int 0, .int 0]))] sz) := by
  refine Met.ofW (cc := cX11_end) (maxL := 2) (ret := (some .int)) (by decide +kernel) rfl ?_
  intro p e s m args below meth c s₁ B hml hv
  obtain ⟨rfl, hsz, hP, hK, hD0, hN⟩ := hv
  have hx := B.exec
  have hb := B.bytes
  have hr := B.returns
  have hts : ∀ w ∈ TT, w.before _ s = true := fun w h => atoms_spec (ws := ww yX11_end cX11_end 2 (some .int)) B.pre w (List.mem_cons_of_mem _ h)
  have hown : s.vm.findClass RX11 = some m.cls := findClass_of_methodNamed B.named
  have hlocks := B.notSynchronized
  subst hsz
  have hD := hD0.self (sz := s.heap.size)
  generalize hAe : va_A [(g, .inr (11, [.ref g0, .ref g1, .ref g2, .int 0, .ref g4, .ref g5, .ref g6, .ref g7, .ref g8, .ref g9, .ref g10, .ref g11, .ref g12])), (g0, .inr (9, [.int 0, .int 0, .int (-1), .ref a3, .ref a4, .int 0, .int 0, .int 0, .int 0]))] s.heap.size = A at hD ⊢
  have hA : ∀ q : Nat, s.heap.size ≤ q → A q := fun q h => by rw [← hAe]; exact Or.inr h
  have hS : va_S A s.heap s.heap [] := va_S.rf
  have hl := lv_entry ([.ref g, .int p0]) (n := 2) (Nat.le_of_ble_eq_true rfl)
  rw [lg_entry_eq]
  generalize (lg_sl ([.ref g, .int p0]) ++ List.replicate (2 - (lg_sl ([.ref g, .int p0])).length) Slot.unset).toArray = ls at hl ⊢
  have hl : lv_has ls 2 [(0, .ref g), (1, .int p0)] := hl
  refine lv_iload_n hx hb dX11_end_0 rfl (lv_at hl 1 rfl) ?_
  refine lv_if_lt (tgt := 15) hx hb dX11_end_1 (by decide) (fun h_1 => ?_) (fun h_1 => ?_)
  · skip
    have zh_1 : p0.toInt < 0 := z_lt h_1
    refine lv_iconst (v := (-1)) hx hb dX11_end_15 (by decide) ?_
    have hP9 := hP.sub (ws' := []) [] rfl
    have hD9 := hD.sub (ws' := []) [] (by decide) rfl
    exact W.iret (v := (-1)) hx hb hr (fun tZ ht hW => ⟨⟨(-1), (), rfl, (show (-1) = sp_end p0 from by unfold sp_end; first | (rw [if_neg (by omega)]) | (rw [if_pos (by omega)])), by rw [ht]; exact hP9, va_K.moved hW.alike hK, hD9⟩, hS.F ht⟩) hS.2.2 dX11_end_16
  · skip
    have zh_1 : 0 ≤ p0.toInt := z_nlt h_1
    refine lv_iload_n hx hb dX11_end_4 rfl (lv_at hl 1 rfl) ?_
    refine lv_aload_n hx hb dX11_end_5 rfl (lv_at hl 0 rfl) ?_
    refine va_get (D := D) (ci := 11) (v := .ref g0) (C := RX11) (T := TX11) (N := 13) hx hb hts iT_X11 hown hK hP 0 rfl rfl 0 (by decide) (hts _ tw_2_170) (fun _ h9 => h9) rfl dX11_end_6 ?_
    refine va_get (D := D) (ci := 9) (v := .int 0) (C := RX9) (T := TX9) (N := 9) hx hb hts iT_X9 hown hK hP 1 rfl rfl 0 (by decide) (hts _ tw_1_196) (fun _ h9 => h9) rfl dX11_end_9 ?_
    refine lv_icmp_le (tgt := 17) hx hb dX11_end_12 (by decide) (fun h_2 => ?_) (fun h_2 => ?_)
    · skip
      have zh_2 : p0.toInt ≤ 0 := z_le h_2
      refine lv_aload_n hx hb dX11_end_17 rfl (lv_at hl 0 rfl) ?_
      refine va_get (D := D) (ci := 11) (v := .ref g0) (C := RX11) (T := TX11) (N := 13) hx hb hts iT_X11 hown hK hP 0 rfl rfl 0 (by decide) (hts _ tw_2_170) (fun _ h9 => h9) rfl dX11_end_18 ?_
      refine lv_iload_n hx hb dX11_end_21 rfl (lv_at hl 1 rfl) ?_
      refine va_put (D := D) (ci := 9) (v := .int p0) (ty := tyX9 0) (C := RX9) (T := TX9) (N := 9) hx hb hts iT_X9 tyX9 tyX9_ok nmX9 hown hK hP hD hS 1 rfl rfl 0 (by decide) (hts _ tw_1_196) (fun _ h9 => h9) rfl (tyX9_ok 0 (by decide)) rfl rfl (Nat.le_of_ble_eq_true rfl) dX11_end_22 (fun H locs hP hD hS => ?_)
      have hP : va_P D vwCl [(g, .inr (11, [.ref g0, .ref g1, .ref g2, .int 0, .ref g4, .ref g5, .ref g6, .ref g7, .ref g8, .ref g9, .ref g10, .ref g11, .ref g12])), (g0, .inr (9, [.int p0, .int 0, .int (-1), .ref a3, .ref a4, .int 0, .int 0, .int 0, .int 0]))] H := hP
      have hD : va_D A [(g, .inr (11, [.ref g0, .ref g1, .ref g2, .int 0, .ref g4, .ref g5, .ref g6, .ref g7, .ref g8, .ref g9, .ref g10, .ref g11, .ref g12])), (g0, .inr (9, [.int p0, .int 0, .int (-1), .ref a3, .ref a4, .int 0, .int 0, .int 0, .int 0]))] := hD
      refine lv_iload_n hx hb dX11_end_25 rfl (lv_at hl 1 rfl) ?_
      have hP9 := hP.sub (ws' := []) [] rfl
      have hD9 := hD.sub (ws' := []) [] (by decide) rfl
      exact W.iret (v := p0) hx hb hr (fun tZ ht hW => ⟨⟨p0, (), rfl, (show p0 = sp_end p0 from by unfold sp_end; first | (rw [if_neg (by omega)]; exact Int32.toInt_inj.mp (show p0.toInt = 0 from by omega)) | (rw [if_pos (by omega)]; exact Int32.toInt_inj.mp (show p0.toInt = 0 from by omega))), by rw [ht]; exact hP9, va_K.moved hW.alike hK, hD9⟩, hS.F ht⟩) hS.2.2 dX11_end_26
    · skip
      have zh_2 : 0 < p0.toInt := z_nle h_2
      refine lv_iconst (v := (-1)) hx hb dX11_end_15 (by decide) ?_
      have hP9 := hP.sub (ws' := []) [] rfl
      have hD9 := hD.sub (ws' := []) [] (by decide) rfl
      exact W.iret (v := (-1)) hx hb hr (fun tZ ht hW => ⟨⟨(-1), (), rfl, (show (-1) = sp_end p0 from by unfold sp_end; first | (rw [if_neg (by omega)]) | (rw [if_pos (by omega)])), by rw [ht]; exact hP9, va_K.moved hW.alike hK, hD9⟩, hS.F ht⟩) hS.2.2 dX11_end_16
set_option maxHeartbeats 4000000 in
set_option maxRecDepth 100000 in
theorem c_X11_fault (l : Launch) (D : va_G) (k : Nat → ClassId) (g : Nat) (g0 : Nat) (g1 : Nat) (g2 : Nat) (g4 : Nat) (g5 : Nat) (g6 : Nat) (g7 : Nat) (g8 : Nat) (g9 : Nat) (g10 : Nat) (g11 : Nat) (g12 : Nat) (a3 : Nat) (a4 : Nat) (p0 : Int32) (sz : Nat) : Met l yX11_fault (ww yX11_fault cX11_fault 2 (some .int)) ({ frames := 0, cells := 0, slots := 0, locals := 0 }) (Pre0 D k [(g, .inr (11, [.ref g0, .ref g1, .ref g2, .int 0, .ref g4, .ref g5, .ref g6, .ref g7, .ref g8, .ref g9, .ref g10, .ref g11, .ref g12])), (g0, .inr (9, [.int 0, .int 0, .int (-1), .ref a3, .ref a4, .int 0, .int 0, .int 0, .int 0]))] sz [.ref g, .int p0]) (va_Qi (fun (r : Int32) (_ : Unit) => r = sp_fault p0) (fun (_ : Unit) tZ => Bw D k (va_A [(g, .inr (11, [.ref g0, .ref g1, .ref g2, .int 0, .ref g4, .ref g5, .ref g6, .ref g7, .ref g8, .ref g9, .ref g10, .ref g11, .ref g12])), (g0, .inr (9, [.int 0, .int 0, .int (-1), .ref a3, .ref a4, .int 0, .int 0, .int 0, .int 0]))] sz) [(g, .inr (11, [.ref g0, .ref g1, .ref g2, .int 0, .ref g4, .ref g5, .ref g6, .ref g7, .ref g8, .ref g9, .ref g10, .ref g11, .ref g12])), (g0, .inr (9, [.int 0, .int 0, .int (-1), .ref a3, .ref a4, .int 0, .int 0, .int 0, .int 0]))] tZ) (va_A [(g, .inr (11, [.ref g0, .ref g1, .ref g2, .int 0, .ref g4, .ref g5, .ref g6, .ref g7, .ref g8, .ref g9, .ref g10, .ref g11, .ref g12])), (g0, .inr (9, [.int 0, .int 0, .int (-1), .ref a3, .ref a4, .int 0, .int 0, .int 0, .int 0]))] sz)) 0 0 (va_A [(g, .inr (11, [.ref g0, .ref g1, .ref g2, .int 0, .ref g4, .ref g5, .ref g6, .ref g7, .ref g8, .ref g9, .ref g10, .ref g11, .ref g12])), (g0, .inr (9, [.int 0, .int 0, .int (-1), .ref a3, .ref a4, .int 0, .int 0, .int 0, .int 0]))] sz) := by
  refine Met.ofW (cc := cX11_fault) (maxL := 2) (ret := (some .int)) (by decide +kernel) rfl ?_
  intro p e s m args below meth c s₁ B hml hv
  obtain ⟨rfl, hsz, hP, hK, hD0, hN⟩ := hv
  have hx := B.exec
  have hb := B.bytes
  have hr := B.returns
  have hts : ∀ w ∈ TT, w.before _ s = true := fun w h => atoms_spec (ws := ww yX11_fault cX11_fault 2 (some .int)) B.pre w (List.mem_cons_of_mem _ h)
  have hown : s.vm.findClass RX11 = some m.cls := findClass_of_methodNamed B.named
  have hlocks := B.notSynchronized
  subst hsz
  have hD := hD0.self (sz := s.heap.size)
  generalize hAe : va_A [(g, .inr (11, [.ref g0, .ref g1, .ref g2, .int 0, .ref g4, .ref g5, .ref g6, .ref g7, .ref g8, .ref g9, .ref g10, .ref g11, .ref g12])), (g0, .inr (9, [.int 0, .int 0, .int (-1), .ref a3, .ref a4, .int 0, .int 0, .int 0, .int 0]))] s.heap.size = A at hD ⊢
  have hA : ∀ q : Nat, s.heap.size ≤ q → A q := fun q h => by rw [← hAe]; exact Or.inr h
  have hS : va_S A s.heap s.heap [] := va_S.rf
  have hl := lv_entry ([.ref g, .int p0]) (n := 2) (Nat.le_of_ble_eq_true rfl)
  rw [lg_entry_eq]
  generalize (lg_sl ([.ref g, .int p0]) ++ List.replicate (2 - (lg_sl ([.ref g, .int p0])).length) Slot.unset).toArray = ls at hl ⊢
  have hl : lv_has ls 2 [(0, .ref g), (1, .int p0)] := hl
  refine lv_iload_n hx hb dX11_fault_0 rfl (lv_at hl 1 rfl) ?_
  refine lv_if_ne (tgt := 14) hx hb dX11_fault_1 (by decide) (fun h_1 => ?_) (fun h_1 => ?_)
  · skip
    have zh_1 : ¬ p0.toInt = 0 := z_ne h_1
    refine lv_iload_n hx hb dX11_fault_14 rfl (lv_at hl 1 rfl) ?_
    refine lv_iconst (v := 1) hx hb dX11_fault_15 (by decide) ?_
    refine lv_icmp_ne (tgt := 29) hx hb dX11_fault_16 (by decide) (fun h_2 => ?_) (fun h_2 => ?_)
    · skip
      have zh_2 : ¬ p0.toInt = 1 := z_ne h_2
      refine lv_iconst (v := (-1)) hx hb dX11_fault_29 (by decide) ?_
      have hP9 := hP.sub (ws' := [(g, .inr (11, [.ref g0, .ref g1, .ref g2, .int 0, .ref g4, .ref g5, .ref g6, .ref g7, .ref g8, .ref g9, .ref g10, .ref g11, .ref g12])), (g0, .inr (9, [.int 0, .int 0, .int (-1), .ref a3, .ref a4, .int 0, .int 0, .int 0, .int 0]))]) [0, 1] rfl
      have hD9 := hD.sub (ws' := [(g, .inr (11, [.ref g0, .ref g1, .ref g2, .int 0, .ref g4, .ref g5, .ref g6, .ref g7, .ref g8, .ref g9, .ref g10, .ref g11, .ref g12])), (g0, .inr (9, [.int 0, .int 0, .int (-1), .ref a3, .ref a4, .int 0, .int 0, .int 0, .int 0]))]) [0, 1] (by decide) rfl
      exact W.iret (v := (-1)) hx hb hr (fun tZ ht hW => ⟨⟨(-1), (), rfl, (show (-1) = sp_fault p0 from by unfold sp_fault; first | (rw [if_neg (by omega)]) | (rw [if_pos (by omega)])), by rw [ht]; exact hP9, va_K.moved hW.alike hK, hD9⟩, hS.F ht⟩) hS.2.2 dX11_fault_30
    · skip
      have zh_2 : p0.toInt = 1 := z_eq h_2
      refine lv_aload_n hx hb dX11_fault_19 rfl (lv_at hl 0 rfl) ?_
      refine va_get (D := D) (ci := 11) (v := .ref g0) (C := RX11) (T := TX11) (N := 13) hx hb hts iT_X11 hown hK hP 0 rfl rfl 0 (by decide) (hts _ tw_2_170) (fun _ h9 => h9) rfl dX11_fault_20 ?_
      refine va_get (D := D) (ci := 9) (v := .int (-1)) (C := RX9) (T := TX9) (N := 9) hx hb hts iT_X9 hown hK hP 1 rfl rfl 2 (by decide) (hts _ tw_1_200) (fun _ h9 => h9) rfl dX11_fault_23 ?_
      refine lv_goto (tgt := 30) hx hb dX11_fault_26 (by decide) ?_
      have hP9 := hP.sub (ws' := [(g, .inr (11, [.ref g0, .ref g1, .ref g2, .int 0, .ref g4, .ref g5, .ref g6, .ref g7, .ref g8, .ref g9, .ref g10, .ref g11, .ref g12])), (g0, .inr (9, [.int 0, .int 0, .int (-1), .ref a3, .ref a4, .int 0, .int 0, .int 0, .int 0]))]) [0, 1] rfl
      have hD9 := hD.sub (ws' := [(g, .inr (11, [.ref g0, .ref g1, .ref g2, .int 0, .ref g4, .ref g5, .ref g6, .ref g7, .ref g8, .ref g9, .ref g10, .ref g11, .ref g12])), (g0, .inr (9, [.int 0, .int 0, .int (-1), .ref a3, .ref a4, .int 0, .int 0, .int 0, .int 0]))]) [0, 1] (by decide) rfl
      exact W.iret (v := (-1)) hx hb hr (fun tZ ht hW => ⟨⟨(-1), (), rfl, (show (-1) = sp_fault p0 from by unfold sp_fault; first | (rw [if_neg (by omega)]) | (rw [if_pos (by omega)])), by rw [ht]; exact hP9, va_K.moved hW.alike hK, hD9⟩, hS.F ht⟩) hS.2.2 dX11_fault_30
  · skip
    have zh_1 : p0.toInt = 0 := z_eq h_1
    refine lv_aload_n hx hb dX11_fault_4 rfl (lv_at hl 0 rfl) ?_
    refine va_get (D := D) (ci := 11) (v := .ref g0) (C := RX11) (T := TX11) (N := 13) hx hb hts iT_X11 hown hK hP 0 rfl rfl 0 (by decide) (hts _ tw_2_170) (fun _ h9 => h9) rfl dX11_fault_5 ?_
    refine va_get (D := D) (ci := 9) (v := .int 0) (C := RX9) (T := TX9) (N := 9) hx hb hts iT_X9 hown hK hP 1 rfl rfl 1 (by decide) (hts _ tw_1_198) (fun _ h9 => h9) rfl dX11_fault_8 ?_
    refine lv_goto (tgt := 30) hx hb dX11_fault_11 (by decide) ?_
    have hP9 := hP.sub (ws' := [(g, .inr (11, [.ref g0, .ref g1, .ref g2, .int 0, .ref g4, .ref g5, .ref g6, .ref g7, .ref g8, .ref g9, .ref g10, .ref g11, .ref g12])), (g0, .inr (9, [.int 0, .int 0, .int (-1), .ref a3, .ref a4, .int 0, .int 0, .int 0, .int 0]))]) [0, 1] rfl
    have hD9 := hD.sub (ws' := [(g, .inr (11, [.ref g0, .ref g1, .ref g2, .int 0, .ref g4, .ref g5, .ref g6, .ref g7, .ref g8, .ref g9, .ref g10, .ref g11, .ref g12])), (g0, .inr (9, [.int 0, .int 0, .int (-1), .ref a3, .ref a4, .int 0, .int 0, .int 0, .int 0]))]) [0, 1] (by decide) rfl
    exact W.iret (v := 0) hx hb hr (fun tZ ht hW => ⟨⟨0, (), rfl, (show 0 = sp_fault p0 from by unfold sp_fault; first | (rw [if_neg (by omega)]) | (rw [if_pos (by omega)])), by rw [ht]; exact hP9, va_K.moved hW.alike hK, hD9⟩, hS.F ht⟩) hS.2.2 dX11_fault_30
set_option maxHeartbeats 4000000 in
set_option maxRecDepth 100000 in
theorem c_X10_clear (l : Launch) (D : va_G) (k : Nat → ClassId) (a3 : Nat) (d3 : Nat) (d4 : Nat) (d5 : Nat) (d6 : Nat) (d9 : Nat) (d10 : Nat) (d12 : Nat) (d13 : Nat) (d14 : Nat) (d15 : Nat) (d17 : Nat) (d18 : Nat) (d19 : Nat) (e1 : Nat) (e2 : Nat) (e3 : Nat) (sz : Nat) : Met l yX10_clear (ww yX10_clear cX10_clear 1 none) ({ frames := 0, cells := 0, slots := 0, locals := 0 }) (Pre0 D k [(a3, .inr (10, [.int 0, .int 0, .int 0, .ref d3, .ref d4, .ref d5, .ref d6, .int 0, .int 0, .ref d9, .ref d10, .int 0, .ref d12, .ref d13, .ref d14, .ref d15, .int 0, .ref d17, .ref d18, .ref d19])), (d19, .inr (0, [.int 0, .ref e1, .ref e2, .ref e3]))] sz [.ref a3]) (va_Qv (fun (_ : Unit) => True) (fun (_ : Unit) tZ => Bw D k (va_A [(a3, .inr (10, [.int 0, .int 0, .int 0, .ref d3, .ref d4, .ref d5, .ref d6, .int 0, .int 0, .ref d9, .ref d10, .int 0, .ref d12, .ref d13, .ref d14, .ref d15, .int 0, .ref d17, .ref d18, .ref d19])), (d19, .inr (0, [.int 0, .ref e1, .ref e2, .ref e3]))] sz) [(a3, .inr (10, [.int 0, .int 0, .int 0, .ref d3, .ref d4, .ref d5, .ref d6, .int 0, .int 0, .ref d9, .ref d10, .int 0, .ref d12, .ref d13, .ref d14, .ref d15, .int 0, .ref d17, .ref d18, .ref d19])), (d19, .inr (0, [.int 0, .ref e1, .ref e2, .ref e3]))] tZ) (va_A [(a3, .inr (10, [.int 0, .int 0, .int 0, .ref d3, .ref d4, .ref d5, .ref d6, .int 0, .int 0, .ref d9, .ref d10, .int 0, .ref d12, .ref d13, .ref d14, .ref d15, .int 0, .ref d17, .ref d18, .ref d19])), (d19, .inr (0, [.int 0, .ref e1, .ref e2, .ref e3]))] sz)) 0 0 (va_A [(a3, .inr (10, [.int 0, .int 0, .int 0, .ref d3, .ref d4, .ref d5, .ref d6, .int 0, .int 0, .ref d9, .ref d10, .int 0, .ref d12, .ref d13, .ref d14, .ref d15, .int 0, .ref d17, .ref d18, .ref d19])), (d19, .inr (0, [.int 0, .ref e1, .ref e2, .ref e3]))] sz) := by
  refine Met.ofW (cc := cX10_clear) (maxL := 1) (ret := none) (by decide +kernel) rfl ?_
  intro p e s m args below meth c s₁ B hml hv
  obtain ⟨rfl, hsz, hP, hK, hD0, hN⟩ := hv
  have hx := B.exec
  have hb := B.bytes
  have hr := B.returns
  have hts : ∀ w ∈ TT, w.before _ s = true := fun w h => atoms_spec (ws := ww yX10_clear cX10_clear 1 none) B.pre w (List.mem_cons_of_mem _ h)
  have hown : s.vm.findClass RX10 = some m.cls := findClass_of_methodNamed B.named
  have hlocks := B.notSynchronized
  subst hsz
  have hD := hD0.self (sz := s.heap.size)
  generalize hAe : va_A [(a3, .inr (10, [.int 0, .int 0, .int 0, .ref d3, .ref d4, .ref d5, .ref d6, .int 0, .int 0, .ref d9, .ref d10, .int 0, .ref d12, .ref d13, .ref d14, .ref d15, .int 0, .ref d17, .ref d18, .ref d19])), (d19, .inr (0, [.int 0, .ref e1, .ref e2, .ref e3]))] s.heap.size = A at hD ⊢
  have hA : ∀ q : Nat, s.heap.size ≤ q → A q := fun q h => by rw [← hAe]; exact Or.inr h
  have hS : va_S A s.heap s.heap [] := va_S.rf
  have hl := lv_entry ([.ref a3]) (n := 1) (Nat.le_of_ble_eq_true rfl)
  rw [lg_entry_eq]
  generalize (lg_sl ([.ref a3]) ++ List.replicate (1 - (lg_sl ([.ref a3])).length) Slot.unset).toArray = ls at hl ⊢
  have hl : lv_has ls 1 [(0, .ref a3)] := hl
  refine lv_aload_n hx hb dX10_clear_0 rfl (lv_at hl 0 rfl) ?_
  refine lv_iconst (v := 0) hx hb dX10_clear_1 (by decide) ?_
  refine va_put (D := D) (ci := 10) (v := .int 0) (ty := tyX10 0) (C := RX10) (T := TX10) (N := 20) hx hb hts iT_X10 tyX10 tyX10_ok nmX10 hown hK hP hD hS 0 rfl rfl 0 (by decide) (hts _ tw_1_67) (fun _ h9 => h9) rfl (tyX10_ok 0 (by decide)) rfl rfl (Nat.le_of_ble_eq_true rfl) dX10_clear_2 (fun H locs hP hD hS => ?_)
  have hP : va_P D vwCl [(a3, .inr (10, [.int 0, .int 0, .int 0, .ref d3, .ref d4, .ref d5, .ref d6, .int 0, .int 0, .ref d9, .ref d10, .int 0, .ref d12, .ref d13, .ref d14, .ref d15, .int 0, .ref d17, .ref d18, .ref d19])), (d19, .inr (0, [.int 0, .ref e1, .ref e2, .ref e3]))] H := hP
  have hD : va_D A [(a3, .inr (10, [.int 0, .int 0, .int 0, .ref d3, .ref d4, .ref d5, .ref d6, .int 0, .int 0, .ref d9, .ref d10, .int 0, .ref d12, .ref d13, .ref d14, .ref d15, .int 0, .ref d17, .ref d18, .ref d19])), (d19, .inr (0, [.int 0, .ref e1, .ref e2, .ref e3]))] := hD
  refine lv_aload_n hx hb dX10_clear_5 rfl (lv_at hl 0 rfl) ?_
  refine lv_iconst (v := 0) hx hb dX10_clear_6 (by decide) ?_
  refine va_put (D := D) (ci := 10) (v := .int 0) (ty := tyX10 1) (C := RX10) (T := TX10) (N := 20) hx hb hts iT_X10 tyX10 tyX10_ok nmX10 hown hK hP hD hS 0 rfl rfl 1 (by decide) (hts _ tw_1_74) (fun _ h9 => h9) rfl (tyX10_ok 1 (by decide)) rfl rfl (Nat.le_of_ble_eq_true rfl) dX10_clear_7 (fun H locs hP hD hS => ?_)
  have hP : va_P D vwCl [(a3, .inr (10, [.int 0, .int 0, .int 0, .ref d3, .ref d4, .ref d5, .ref d6, .int 0, .int 0, .ref d9, .ref d10, .int 0, .ref d12, .ref d13, .ref d14, .ref d15, .int 0, .ref d17, .ref d18, .ref d19])), (d19, .inr (0, [.int 0, .ref e1, .ref e2, .ref e3]))] H := hP
  have hD : va_D A [(a3, .inr (10, [.int 0, .int 0, .int 0, .ref d3, .ref d4, .ref d5, .ref d6, .int 0, .int 0, .ref d9, .ref d10, .int 0, .ref d12, .ref d13, .ref d14, .ref d15, .int 0, .ref d17, .ref d18, .ref d19])), (d19, .inr (0, [.int 0, .ref e1, .ref e2, .ref e3]))] := hD
  refine lv_aload_n hx hb dX10_clear_10 rfl (lv_at hl 0 rfl) ?_
  refine lv_iconst (v := 0) hx hb dX10_clear_11 (by decide) ?_
  refine va_put (D := D) (ci := 10) (v := .int 0) (ty := tyX10 2) (C := RX10) (T := TX10) (N := 20) hx hb hts iT_X10 tyX10 tyX10_ok nmX10 hown hK hP hD hS 0 rfl rfl 2 (by decide) (hts _ tw_1_77) (fun _ h9 => h9) rfl (tyX10_ok 2 (by decide)) rfl rfl (Nat.le_of_ble_eq_true rfl) dX10_clear_12 (fun H locs hP hD hS => ?_)
  have hP : va_P D vwCl [(a3, .inr (10, [.int 0, .int 0, .int 0, .ref d3, .ref d4, .ref d5, .ref d6, .int 0, .int 0, .ref d9, .ref d10, .int 0, .ref d12, .ref d13, .ref d14, .ref d15, .int 0, .ref d17, .ref d18, .ref d19])), (d19, .inr (0, [.int 0, .ref e1, .ref e2, .ref e3]))] H := hP
  have hD : va_D A [(a3, .inr (10, [.int 0, .int 0, .int 0, .ref d3, .ref d4, .ref d5, .ref d6, .int 0, .int 0, .ref d9, .ref d10, .int 0, .ref d12, .ref d13, .ref d14, .ref d15, .int 0, .ref d17, .ref d18, .ref d19])), (d19, .inr (0, [.int 0, .ref e1, .ref e2, .ref e3]))] := hD
  refine lv_aload_n hx hb dX10_clear_15 rfl (lv_at hl 0 rfl) ?_
  refine lv_iconst (v := 0) hx hb dX10_clear_16 (by decide) ?_
  refine va_put (D := D) (ci := 10) (v := .int 0) (ty := tyX10 7) (C := RX10) (T := TX10) (N := 20) hx hb hts iT_X10 tyX10 tyX10_ok nmX10 hown hK hP hD hS 0 rfl rfl 7 (by decide) (hts _ tw_1_101) (fun _ h9 => h9) rfl (tyX10_ok 7 (by decide)) rfl rfl (Nat.le_of_ble_eq_true rfl) dX10_clear_17 (fun H locs hP hD hS => ?_)
  have hP : va_P D vwCl [(a3, .inr (10, [.int 0, .int 0, .int 0, .ref d3, .ref d4, .ref d5, .ref d6, .int 0, .int 0, .ref d9, .ref d10, .int 0, .ref d12, .ref d13, .ref d14, .ref d15, .int 0, .ref d17, .ref d18, .ref d19])), (d19, .inr (0, [.int 0, .ref e1, .ref e2, .ref e3]))] H := hP
  have hD : va_D A [(a3, .inr (10, [.int 0, .int 0, .int 0, .ref d3, .ref d4, .ref d5, .ref d6, .int 0, .int 0, .ref d9, .ref d10, .int 0, .ref d12, .ref d13, .ref d14, .ref d15, .int 0, .ref d17, .ref d18, .ref d19])), (d19, .inr (0, [.int 0, .ref e1, .ref e2, .ref e3]))] := hD
  refine lv_aload_n hx hb dX10_clear_20 rfl (lv_at hl 0 rfl) ?_
  refine lv_iconst (v := 0) hx hb dX10_clear_21 (by decide) ?_
  refine va_put (D := D) (ci := 10) (v := .int 0) (ty := tyX10 8) (C := RX10) (T := TX10) (N := 20) hx hb hts iT_X10 tyX10 tyX10_ok nmX10 hown hK hP hD hS 0 rfl rfl 8 (by decide) (hts _ tw_1_103) (fun _ h9 => h9) rfl (tyX10_ok 8 (by decide)) rfl rfl (Nat.le_of_ble_eq_true rfl) dX10_clear_22 (fun H locs hP hD hS => ?_)
  have hP : va_P D vwCl [(a3, .inr (10, [.int 0, .int 0, .int 0, .ref d3, .ref d4, .ref d5, .ref d6, .int 0, .int 0, .ref d9, .ref d10, .int 0, .ref d12, .ref d13, .ref d14, .ref d15, .int 0, .ref d17, .ref d18, .ref d19])), (d19, .inr (0, [.int 0, .ref e1, .ref e2, .ref e3]))] H := hP
  have hD : va_D A [(a3, .inr (10, [.int 0, .int 0, .int 0, .ref d3, .ref d4, .ref d5, .ref d6, .int 0, .int 0, .ref d9, .ref d10, .int 0, .ref d12, .ref d13, .ref d14, .ref d15, .int 0, .ref d17, .ref d18, .ref d19])), (d19, .inr (0, [.int 0, .ref e1, .ref e2, .ref e3]))] := hD
  refine lv_aload_n hx hb dX10_clear_25 rfl (lv_at hl 0 rfl) ?_
  refine lv_iconst (v := 0) hx hb dX10_clear_26 (by decide) ?_
  refine va_put (D := D) (ci := 10) (v := .int 0) (ty := tyX10 11) (C := RX10) (T := TX10) (N := 20) hx hb hts iT_X10 tyX10 tyX10_ok nmX10 hown hK hP hD hS 0 rfl rfl 11 (by decide) (hts _ tw_1_119) (fun _ h9 => h9) rfl (tyX10_ok 11 (by decide)) rfl rfl (Nat.le_of_ble_eq_true rfl) dX10_clear_27 (fun H locs hP hD hS => ?_)
  have hP : va_P D vwCl [(a3, .inr (10, [.int 0, .int 0, .int 0, .ref d3, .ref d4, .ref d5, .ref d6, .int 0, .int 0, .ref d9, .ref d10, .int 0, .ref d12, .ref d13, .ref d14, .ref d15, .int 0, .ref d17, .ref d18, .ref d19])), (d19, .inr (0, [.int 0, .ref e1, .ref e2, .ref e3]))] H := hP
  have hD : va_D A [(a3, .inr (10, [.int 0, .int 0, .int 0, .ref d3, .ref d4, .ref d5, .ref d6, .int 0, .int 0, .ref d9, .ref d10, .int 0, .ref d12, .ref d13, .ref d14, .ref d15, .int 0, .ref d17, .ref d18, .ref d19])), (d19, .inr (0, [.int 0, .ref e1, .ref e2, .ref e3]))] := hD
  refine lv_aload_n hx hb dX10_clear_30 rfl (lv_at hl 0 rfl) ?_
  refine lv_iconst (v := 0) hx hb dX10_clear_31 (by decide) ?_
  refine va_put (D := D) (ci := 10) (v := .int 0) (ty := tyX10 16) (C := RX10) (T := TX10) (N := 20) hx hb hts iT_X10 tyX10 tyX10_ok nmX10 hown hK hP hD hS 0 rfl rfl 16 (by decide) (hts _ tw_1_142) (fun _ h9 => h9) rfl (tyX10_ok 16 (by decide)) rfl rfl (Nat.le_of_ble_eq_true rfl) dX10_clear_32 (fun H locs hP hD hS => ?_)
  have hP : va_P D vwCl [(a3, .inr (10, [.int 0, .int 0, .int 0, .ref d3, .ref d4, .ref d5, .ref d6, .int 0, .int 0, .ref d9, .ref d10, .int 0, .ref d12, .ref d13, .ref d14, .ref d15, .int 0, .ref d17, .ref d18, .ref d19])), (d19, .inr (0, [.int 0, .ref e1, .ref e2, .ref e3]))] H := hP
  have hD : va_D A [(a3, .inr (10, [.int 0, .int 0, .int 0, .ref d3, .ref d4, .ref d5, .ref d6, .int 0, .int 0, .ref d9, .ref d10, .int 0, .ref d12, .ref d13, .ref d14, .ref d15, .int 0, .ref d17, .ref d18, .ref d19])), (d19, .inr (0, [.int 0, .ref e1, .ref e2, .ref e3]))] := hD
  refine lv_aload_n hx hb dX10_clear_35 rfl (lv_at hl 0 rfl) ?_
  refine va_get (D := D) (ci := 10) (v := .ref d19) (C := RX10) (T := TX10) (N := 20) hx hb hts iT_X10 hown hK hP 0 rfl rfl 19 (by decide) (hts _ tw_1_152) (fun _ h9 => h9) rfl dX10_clear_36 ?_
  refine lv_iconst (v := 0) hx hb dX10_clear_39 (by decide) ?_
  refine va_put (D := D) (ci := 0) (v := .int 0) (ty := tyX0 0) (C := RX0) (T := TX0) (N := 4) hx hb hts iT_X0 tyX0 tyX0_ok nmX0 hown hK hP hD hS 1 rfl rfl 0 (by decide) (hts _ tw_1_49) (fun _ h9 => h9) rfl (tyX0_ok 0 (by decide)) rfl rfl (Nat.le_of_ble_eq_true rfl) dX10_clear_40 (fun H locs hP hD hS => ?_)
  have hP : va_P D vwCl [(a3, .inr (10, [.int 0, .int 0, .int 0, .ref d3, .ref d4, .ref d5, .ref d6, .int 0, .int 0, .ref d9, .ref d10, .int 0, .ref d12, .ref d13, .ref d14, .ref d15, .int 0, .ref d17, .ref d18, .ref d19])), (d19, .inr (0, [.int 0, .ref e1, .ref e2, .ref e3]))] H := hP
  have hD : va_D A [(a3, .inr (10, [.int 0, .int 0, .int 0, .ref d3, .ref d4, .ref d5, .ref d6, .int 0, .int 0, .ref d9, .ref d10, .int 0, .ref d12, .ref d13, .ref d14, .ref d15, .int 0, .ref d17, .ref d18, .ref d19])), (d19, .inr (0, [.int 0, .ref e1, .ref e2, .ref e3]))] := hD
  have hP9 := hP.sub (ws' := [(a3, .inr (10, [.int 0, .int 0, .int 0, .ref d3, .ref d4, .ref d5, .ref d6, .int 0, .int 0, .ref d9, .ref d10, .int 0, .ref d12, .ref d13, .ref d14, .ref d15, .int 0, .ref d17, .ref d18, .ref d19])), (d19, .inr (0, [.int 0, .ref e1, .ref e2, .ref e3]))]) [0, 1] rfl
  have hD9 := hD.sub (ws' := [(a3, .inr (10, [.int 0, .int 0, .int 0, .ref d3, .ref d4, .ref d5, .ref d6, .int 0, .int 0, .ref d9, .ref d10, .int 0, .ref d12, .ref d13, .ref d14, .ref d15, .int 0, .ref d17, .ref d18, .ref d19])), (d19, .inr (0, [.int 0, .ref e1, .ref e2, .ref e3]))]) [0, 1] (by decide) rfl
  exact W.vret hx hb hr (fun tZ ht hW => ⟨⟨(), rfl, trivial, by rw [ht]; exact hP9, va_K.moved hW.alike hK, hD9⟩, hS.F ht⟩) hS.2.2 dX10_clear_43
set_option maxHeartbeats 4000000 in
set_option maxRecDepth 100000 in
theorem c_X9_advance (l : Launch) (D : va_G) (k : Nat → ClassId) (ta : Nat) (a3 : Nat) (a4 : Nat) (sz : Nat) : Met l yX9_advance (ww yX9_advance cX9_advance 1 none) ({ frames := 0, cells := 0, slots := 0, locals := 0 }) (Pre0 D k [(ta, .inr (9, [.int 0, .int 0, .int (-1), .ref a3, .ref a4, .int 0, .int 0, .int 0, .int 0]))] sz [.ref ta]) (va_Qv (fun (_ : Unit) => True) (fun (_ : Unit) tZ => Bw D k (va_A [(ta, .inr (9, [.int 0, .int 0, .int (-1), .ref a3, .ref a4, .int 0, .int 0, .int 0, .int 0]))] sz) [(ta, .inr (9, [.int 0, .int 0, .int (-1), .ref a3, .ref a4, .int 0, .int 0, .int 0, .int 0]))] tZ) (va_A [(ta, .inr (9, [.int 0, .int 0, .int (-1), .ref a3, .ref a4, .int 0, .int 0, .int 0, .int 0]))] sz)) 0 0 (va_A [(ta, .inr (9, [.int 0, .int 0, .int (-1), .ref a3, .ref a4, .int 0, .int 0, .int 0, .int 0]))] sz) := by
  refine Met.ofW (cc := cX9_advance) (maxL := 1) (ret := none) (by decide +kernel) rfl ?_
  intro p e s m args below meth c s₁ B hml hv
  obtain ⟨rfl, hsz, hP, hK, hD0, hN⟩ := hv
  have hx := B.exec
  have hb := B.bytes
  have hr := B.returns
  have hts : ∀ w ∈ TT, w.before _ s = true := fun w h => atoms_spec (ws := ww yX9_advance cX9_advance 1 none) B.pre w (List.mem_cons_of_mem _ h)
  have hown : s.vm.findClass RX9 = some m.cls := findClass_of_methodNamed B.named
  have hlocks := B.notSynchronized
  subst hsz
  have hD := hD0.self (sz := s.heap.size)
  generalize hAe : va_A [(ta, .inr (9, [.int 0, .int 0, .int (-1), .ref a3, .ref a4, .int 0, .int 0, .int 0, .int 0]))] s.heap.size = A at hD ⊢
  have hA : ∀ q : Nat, s.heap.size ≤ q → A q := fun q h => by rw [← hAe]; exact Or.inr h
  have hS : va_S A s.heap s.heap [] := va_S.rf
  have hl := lv_entry ([.ref ta]) (n := 1) (Nat.le_of_ble_eq_true rfl)
  rw [lg_entry_eq]
  generalize (lg_sl ([.ref ta]) ++ List.replicate (1 - (lg_sl ([.ref ta])).length) Slot.unset).toArray = ls at hl ⊢
  have hl : lv_has ls 1 [(0, .ref ta)] := hl
  refine lv_aload_n hx hb dX9_advance_0 rfl (lv_at hl 0 rfl) ?_
  refine lv_aload_n hx hb dX9_advance_1 rfl (lv_at hl 0 rfl) ?_
  refine va_get (D := D) (ci := 9) (v := .int 0) (C := RX9) (T := TX9) (N := 9) hx hb hts iT_X9 hown hK hP 0 rfl rfl 7 (by decide) (hts _ tw_1_206) (fun _ h9 => h9) rfl dX9_advance_2 ?_
  refine va_put (D := D) (ci := 9) (v := .int 0) (ty := tyX9 6) (C := RX9) (T := TX9) (N := 9) hx hb hts iT_X9 tyX9 tyX9_ok nmX9 hown hK hP hD hS 0 rfl rfl 6 (by decide) (hts _ tw_1_205) (fun _ h9 => h9) rfl (tyX9_ok 6 (by decide)) rfl rfl (Nat.le_of_ble_eq_true rfl) dX9_advance_5 (fun H locs hP hD hS => ?_)
  have hP : va_P D vwCl [(ta, .inr (9, [.int 0, .int 0, .int (-1), .ref a3, .ref a4, .int 0, .int 0, .int 0, .int 0]))] H := hP
  have hD : va_D A [(ta, .inr (9, [.int 0, .int 0, .int (-1), .ref a3, .ref a4, .int 0, .int 0, .int 0, .int 0]))] := hD
  refine lv_aload_n hx hb dX9_advance_8 rfl (lv_at hl 0 rfl) ?_
  refine va_get (D := D) (ci := 9) (v := .int 0) (C := RX9) (T := TX9) (N := 9) hx hb hts iT_X9 hown hK hP 0 rfl rfl 6 (by decide) (hts _ tw_1_205) (fun _ h9 => h9) rfl dX9_advance_9 ?_
  refine lv_aload_n hx hb dX9_advance_12 rfl (lv_at hl 0 rfl) ?_
  refine va_get (D := D) (ci := 9) (v := .int 0) (C := RX9) (T := TX9) (N := 9) hx hb hts iT_X9 hown hK hP 0 rfl rfl 0 (by decide) (hts _ tw_1_195) (fun _ h9 => h9) rfl dX9_advance_13 ?_
  refine lv_icmp_ge (tgt := 46) hx hb dX9_advance_16 (by decide) (fun _ => ?_) (fun c9 => absurd c9 (by decide))
  refine lv_aload_n hx hb dX9_advance_46 rfl (lv_at hl 0 rfl) ?_
  refine lv_aload_n hx hb dX9_advance_47 rfl (lv_at hl 0 rfl) ?_
  refine va_get (D := D) (ci := 9) (v := .int 0) (C := RX9) (T := TX9) (N := 9) hx hb hts iT_X9 hown hK hP 0 rfl rfl 6 (by decide) (hts _ tw_1_205) (fun _ h9 => h9) rfl dX9_advance_48 ?_
  refine va_put (D := D) (ci := 9) (v := .int 0) (ty := tyX9 7) (C := RX9) (T := TX9) (N := 9) hx hb hts iT_X9 tyX9 tyX9_ok nmX9 hown hK hP hD hS 0 rfl rfl 7 (by decide) (hts _ tw_1_206) (fun _ h9 => h9) rfl (tyX9_ok 7 (by decide)) rfl rfl (Nat.le_of_ble_eq_true rfl) dX9_advance_51 (fun H locs hP hD hS => ?_)
  have hP : va_P D vwCl [(ta, .inr (9, [.int 0, .int 0, .int (-1), .ref a3, .ref a4, .int 0, .int 0, .int 0, .int 0]))] H := hP
  have hD : va_D A [(ta, .inr (9, [.int 0, .int 0, .int (-1), .ref a3, .ref a4, .int 0, .int 0, .int 0, .int 0]))] := hD
  refine lv_aload_n hx hb dX9_advance_54 rfl (lv_at hl 0 rfl) ?_
  refine lv_iconst (v := 0) hx hb dX9_advance_55 (by decide) ?_
  refine va_put (D := D) (ci := 9) (v := .int 0) (ty := tyX9 8) (C := RX9) (T := TX9) (N := 9) hx hb hts iT_X9 tyX9 tyX9_ok nmX9 hown hK hP hD hS 0 rfl rfl 8 (by decide) (hts _ tw_1_207) (fun _ h9 => h9) rfl (tyX9_ok 8 (by decide)) rfl rfl (Nat.le_of_ble_eq_true rfl) dX9_advance_56 (fun H locs hP hD hS => ?_)
  have hP : va_P D vwCl [(ta, .inr (9, [.int 0, .int 0, .int (-1), .ref a3, .ref a4, .int 0, .int 0, .int 0, .int 0]))] H := hP
  have hD : va_D A [(ta, .inr (9, [.int 0, .int 0, .int (-1), .ref a3, .ref a4, .int 0, .int 0, .int 0, .int 0]))] := hD
  refine lv_aload_n hx hb dX9_advance_59 rfl (lv_at hl 0 rfl) ?_
  refine va_get (D := D) (ci := 9) (v := .int 0) (C := RX9) (T := TX9) (N := 9) hx hb hts iT_X9 hown hK hP 0 rfl rfl 6 (by decide) (hts _ tw_1_205) (fun _ h9 => h9) rfl dX9_advance_60 ?_
  refine lv_aload_n hx hb dX9_advance_63 rfl (lv_at hl 0 rfl) ?_
  refine va_get (D := D) (ci := 9) (v := .int 0) (C := RX9) (T := TX9) (N := 9) hx hb hts iT_X9 hown hK hP 0 rfl rfl 0 (by decide) (hts _ tw_1_195) (fun _ h9 => h9) rfl dX9_advance_64 ?_
  refine lv_icmp_lt (tgt := 78) hx hb dX9_advance_67 (by decide) (fun c9 => absurd c9 (by decide)) (fun _ => ?_)
  refine lv_aload_n hx hb dX9_advance_70 rfl (lv_at hl 0 rfl) ?_
  refine lv_iconst (v := 0) hx hb dX9_advance_71 (by decide) ?_
  refine va_put (D := D) (ci := 9) (v := .int 0) (ty := tyX9 5) (C := RX9) (T := TX9) (N := 9) hx hb hts iT_X9 tyX9 tyX9_ok nmX9 hown hK hP hD hS 0 rfl rfl 5 (by decide) (hts _ tw_1_204) (fun _ h9 => h9) rfl (tyX9_ok 5 (by decide)) rfl rfl (Nat.le_of_ble_eq_true rfl) dX9_advance_72 (fun H locs hP hD hS => ?_)
  have hP : va_P D vwCl [(ta, .inr (9, [.int 0, .int 0, .int (-1), .ref a3, .ref a4, .int 0, .int 0, .int 0, .int 0]))] H := hP
  have hD : va_D A [(ta, .inr (9, [.int 0, .int 0, .int (-1), .ref a3, .ref a4, .int 0, .int 0, .int 0, .int 0]))] := hD
  refine lv_goto (tgt := 252) hx hb dX9_advance_75 (by decide) ?_
  have hP9 := hP.sub (ws' := [(ta, .inr (9, [.int 0, .int 0, .int (-1), .ref a3, .ref a4, .int 0, .int 0, .int 0, .int 0]))]) [0] rfl
  have hD9 := hD.sub (ws' := [(ta, .inr (9, [.int 0, .int 0, .int (-1), .ref a3, .ref a4, .int 0, .int 0, .int 0, .int 0]))]) [0] (by decide) rfl
  exact W.vret hx hb hr (fun tZ ht hW => ⟨⟨(), rfl, trivial, by rw [ht]; exact hP9, va_K.moved hW.alike hK, hD9⟩, hS.F ht⟩) hS.2.2 dX9_advance_252
set_option maxHeartbeats 4000000 in
set_option maxRecDepth 100000 in
theorem c_X9_reads (l : Launch) (D : va_G) (k : Nat → ClassId) (ta : Nat) (a3 : Nat) (a4 : Nat) (d3 : Nat) (d4 : Nat) (d5 : Nat) (d6 : Nat) (d9 : Nat) (d10 : Nat) (d12 : Nat) (d13 : Nat) (d14 : Nat) (d15 : Nat) (d17 : Nat) (d18 : Nat) (d19 : Nat) (e1 : Nat) (e2 : Nat) (e3 : Nat) (sz : Nat) : Met l yX9_reads (ww yX9_reads cX9_reads 2 (some .boolean)) ({ frames := 1, cells := 0, slots := 0, locals := 20 }) (Pre0 D k [(ta, .inr (9, [.int 0, .int 0, .int (-1), .ref a3, .ref a4, .int 0, .int 0, .int 0, .int 0])), (a3, .inr (10, [.int 0, .int 0, .int 0, .ref d3, .ref d4, .ref d5, .ref d6, .int 0, .int 0, .ref d9, .ref d10, .int 0, .ref d12, .ref d13, .ref d14, .ref d15, .int 0, .ref d17, .ref d18, .ref d19])), (d19, .inr (0, [.int 0, .ref e1, .ref e2, .ref e3]))] sz [.ref ta]) (va_Qi (fun (r : Int32) (_ : Unit) => r = 1) (fun (_ : Unit) tZ => Bw D k (va_A [(ta, .inr (9, [.int 0, .int 0, .int (-1), .ref a3, .ref a4, .int 0, .int 0, .int 0, .int 0])), (a3, .inr (10, [.int 0, .int 0, .int 0, .ref d3, .ref d4, .ref d5, .ref d6, .int 0, .int 0, .ref d9, .ref d10, .int 0, .ref d12, .ref d13, .ref d14, .ref d15, .int 0, .ref d17, .ref d18, .ref d19])), (d19, .inr (0, [.int 0, .ref e1, .ref e2, .ref e3]))] sz) [(ta, .inr (9, [.int 0, .int 0, .int (-1), .ref a3, .ref a4, .int 0, .int 0, .int 0, .int 0])), (a3, .inr (10, [.int 0, .int 0, .int 0, .ref d3, .ref d4, .ref d5, .ref d6, .int 0, .int 0, .ref d9, .ref d10, .int 0, .ref d12, .ref d13, .ref d14, .ref d15, .int 0, .ref d17, .ref d18, .ref d19])), (d19, .inr (0, [.int 0, .ref e1, .ref e2, .ref e3]))] tZ) (va_A [(ta, .inr (9, [.int 0, .int 0, .int (-1), .ref a3, .ref a4, .int 0, .int 0, .int 0, .int 0])), (a3, .inr (10, [.int 0, .int 0, .int 0, .ref d3, .ref d4, .ref d5, .ref d6, .int 0, .int 0, .ref d9, .ref d10, .int 0, .ref d12, .ref d13, .ref d14, .ref d15, .int 0, .ref d17, .ref d18, .ref d19])), (d19, .inr (0, [.int 0, .ref e1, .ref e2, .ref e3]))] sz)) 0 0 (va_A [(ta, .inr (9, [.int 0, .int 0, .int (-1), .ref a3, .ref a4, .int 0, .int 0, .int 0, .int 0])), (a3, .inr (10, [.int 0, .int 0, .int 0, .ref d3, .ref d4, .ref d5, .ref d6, .int 0, .int 0, .ref d9, .ref d10, .int 0, .ref d12, .ref d13, .ref d14, .ref d15, .int 0, .ref d17, .ref d18, .ref d19])), (d19, .inr (0, [.int 0, .ref e1, .ref e2, .ref e3]))] sz) := by
  refine Met.ofW (cc := cX9_reads) (maxL := 2) (ret := (some .boolean)) (by decide +kernel) rfl ?_
  intro p e s m args below meth c s₁ B hml hv
  obtain ⟨rfl, hsz, hP, hK, hD0, hN⟩ := hv
  have hx := B.exec
  have hb := B.bytes
  have hr := B.returns
  have hts : ∀ w ∈ TT, w.before _ s = true := fun w h => atoms_spec (ws := ww yX9_reads cX9_reads 2 (some .boolean)) B.pre w (List.mem_cons_of_mem _ h)
  have hown : s.vm.findClass RX9 = some m.cls := findClass_of_methodNamed B.named
  have hlocks := B.notSynchronized
  subst hsz
  have hD := hD0.self (sz := s.heap.size)
  generalize hAe : va_A [(ta, .inr (9, [.int 0, .int 0, .int (-1), .ref a3, .ref a4, .int 0, .int 0, .int 0, .int 0])), (a3, .inr (10, [.int 0, .int 0, .int 0, .ref d3, .ref d4, .ref d5, .ref d6, .int 0, .int 0, .ref d9, .ref d10, .int 0, .ref d12, .ref d13, .ref d14, .ref d15, .int 0, .ref d17, .ref d18, .ref d19])), (d19, .inr (0, [.int 0, .ref e1, .ref e2, .ref e3]))] s.heap.size = A at hD ⊢
  have hA : ∀ q : Nat, s.heap.size ≤ q → A q := fun q h => by rw [← hAe]; exact Or.inr h
  have hS : va_S A s.heap s.heap [] := va_S.rf
  have hl := lv_entry ([.ref ta]) (n := 2) (Nat.le_of_ble_eq_true rfl)
  rw [lg_entry_eq]
  generalize (lg_sl ([.ref ta]) ++ List.replicate (2 - (lg_sl ([.ref ta])).length) Slot.unset).toArray = ls at hl ⊢
  have hl : lv_has ls 2 [(0, .ref ta)] := hl
  refine lv_aload_n hx hb dX9_reads_0 rfl (lv_at hl 0 rfl) ?_
  refine va_get (D := D) (ci := 9) (v := .ref a3) (C := RX9) (T := TX9) (N := 9) hx hb hts iT_X9 hown hK hP 0 rfl rfl 3 (by decide) (hts _ tw_1_201) (fun _ h9 => h9) rfl dX9_reads_1 ?_
  have hPc := hP.sub (ws' := [(a3, .inr (10, [.int 0, .int 0, .int 0, .ref d3, .ref d4, .ref d5, .ref d6, .int 0, .int 0, .ref d9, .ref d10, .int 0, .ref d12, .ref d13, .ref d14, .ref d15, .int 0, .ref d17, .ref d18, .ref d19])), (d19, .inr (0, [.int 0, .ref e1, .ref e2, .ref e3]))]) [1, 2] rfl
  have hDc := hD.sub (ws' := [(a3, .inr (10, [.int 0, .int 0, .int 0, .ref d3, .ref d4, .ref d5, .ref d6, .int 0, .int 0, .ref d9, .ref d10, .int 0, .ref d12, .ref d13, .ref d14, .ref d15, .int 0, .ref d17, .ref d18, .ref d19])), (d19, .inr (0, [.int 0, .ref e1, .ref e2, .ref e3]))]) [1, 2] (by decide) rfl
  have hFc := va_free (wc := [(a3, .inr (10, [.int 0, .int 0, .int 0, .ref d3, .ref d4, .ref d5, .ref d6, .int 0, .int 0, .ref d9, .ref d10, .int 0, .ref d12, .ref d13, .ref d14, .ref d15, .int 0, .ref d17, .ref d18, .ref d19])), (d19, .inr (0, [.int 0, .ref e1, .ref e2, .ref e3]))]) hD hS hA [1, 2] rfl
  refine va_callv (va_runV (C := RX10) (As := []) (rest := []) ⟨hx, hb, hml, hown, hts⟩ (c_X10_clear l D k a3 d3 d4 d5 d6 d9 d10 d12 d13 d14 d15 d17 d18 d19 e1 e2 e3 s.heap.size) (cwV 0 hts (gV tw_2_234 tw_2_235 tw_2_236 tw_1_3 tw_2_237) rfl rfl rfl hdV_X10_clear ⟨Nat.le_of_ble_eq_true rfl, Nat.le_of_ble_eq_true rfl⟩) (cz_V hK hPc hDc hN (ci := 10) (q0 := 0) rfl rfl []) rfl rfl hl.1 rfl (lv_room (Nat.le_of_ble_eq_true rfl)) dX9_reads_4 ⟨Nat.le_of_ble_eq_true rfl, Nat.le_of_ble_eq_true rfl⟩) hS (fun q _ h => hFc q h) hFc (fun uZ tZ H1 locs ht hvm hw hB hz1 hk1 hS => ?_)
  obtain ⟨hP1, hK1, hD1⟩ := hB
  rw [ht] at hP1
  obtain ⟨hP, hD⟩ := va_join (wr := [(ta, .inr (9, [.int 0, .int 0, .int (-1), .ref a3, .ref a4, .int 0, .int 0, .int 0, .int 0]))]) (w1 := [(a3, .inr (10, [.int 0, .int 0, .int 0, .ref d3, .ref d4, .ref d5, .ref d6, .int 0, .int 0, .ref d9, .ref d10, .int 0, .ref d12, .ref d13, .ref d14, .ref d15, .int 0, .ref d17, .ref d18, .ref d19])), (d19, .inr (0, [.int 0, .ref e1, .ref e2, .ref e3]))]) hP hD [1, 2] [0] rfl rfl (by decide) (by decide) hk1 hFc hP1 hD1
  clear hK1 hP1 hD1 hPc hDc hFc
  clear hk1 hz1 ht hvm
  have hP : va_P D vwCl [(ta, .inr (9, [.int 0, .int 0, .int (-1), .ref a3, .ref a4, .int 0, .int 0, .int 0, .int 0])), (a3, .inr (10, [.int 0, .int 0, .int 0, .ref d3, .ref d4, .ref d5, .ref d6, .int 0, .int 0, .ref d9, .ref d10, .int 0, .ref d12, .ref d13, .ref d14, .ref d15, .int 0, .ref d17, .ref d18, .ref d19])), (d19, .inr (0, [.int 0, .ref e1, .ref e2, .ref e3]))] H1 := hP
  have hD : va_D A [(ta, .inr (9, [.int 0, .int 0, .int (-1), .ref a3, .ref a4, .int 0, .int 0, .int 0, .int 0])), (a3, .inr (10, [.int 0, .int 0, .int 0, .ref d3, .ref d4, .ref d5, .ref d6, .int 0, .int 0, .ref d9, .ref d10, .int 0, .ref d12, .ref d13, .ref d14, .ref d15, .int 0, .ref d17, .ref d18, .ref d19])), (d19, .inr (0, [.int 0, .ref e1, .ref e2, .ref e3]))] := hD
  generalize H1 = H at hP hS ⊢
  clear hw
  refine lv_aload_n hx hb dX9_reads_7 rfl (lv_at hl 0 rfl) ?_
  refine lv_iconst (v := 0) hx hb dX9_reads_8 (by decide) ?_
  refine va_put (D := D) (ci := 9) (v := .int 0) (ty := tyX9 1) (C := RX9) (T := TX9) (N := 9) hx hb hts iT_X9 tyX9 tyX9_ok nmX9 hown hK hP hD hS 0 rfl rfl 1 (by decide) (hts _ tw_1_197) (fun _ h9 => h9) rfl (tyX9_ok 1 (by decide)) rfl rfl (Nat.le_of_ble_eq_true rfl) dX9_reads_9 (fun H locs hP hD hS => ?_)
  have hP : va_P D vwCl [(ta, .inr (9, [.int 0, .int 0, .int (-1), .ref a3, .ref a4, .int 0, .int 0, .int 0, .int 0])), (a3, .inr (10, [.int 0, .int 0, .int 0, .ref d3, .ref d4, .ref d5, .ref d6, .int 0, .int 0, .ref d9, .ref d10, .int 0, .ref d12, .ref d13, .ref d14, .ref d15, .int 0, .ref d17, .ref d18, .ref d19])), (d19, .inr (0, [.int 0, .ref e1, .ref e2, .ref e3]))] H := hP
  have hD : va_D A [(ta, .inr (9, [.int 0, .int 0, .int (-1), .ref a3, .ref a4, .int 0, .int 0, .int 0, .int 0])), (a3, .inr (10, [.int 0, .int 0, .int 0, .ref d3, .ref d4, .ref d5, .ref d6, .int 0, .int 0, .ref d9, .ref d10, .int 0, .ref d12, .ref d13, .ref d14, .ref d15, .int 0, .ref d17, .ref d18, .ref d19])), (d19, .inr (0, [.int 0, .ref e1, .ref e2, .ref e3]))] := hD
  refine lv_aload_n hx hb dX9_reads_12 rfl (lv_at hl 0 rfl) ?_
  refine lv_iconst (v := (-1)) hx hb dX9_reads_13 (by decide) ?_
  refine va_put (D := D) (ci := 9) (v := .int (-1)) (ty := tyX9 2) (C := RX9) (T := TX9) (N := 9) hx hb hts iT_X9 tyX9 tyX9_ok nmX9 hown hK hP hD hS 0 rfl rfl 2 (by decide) (hts _ tw_1_199) (fun _ h9 => h9) rfl (tyX9_ok 2 (by decide)) rfl rfl (Nat.le_of_ble_eq_true rfl) dX9_reads_14 (fun H locs hP hD hS => ?_)
  have hP : va_P D vwCl [(ta, .inr (9, [.int 0, .int 0, .int (-1), .ref a3, .ref a4, .int 0, .int 0, .int 0, .int 0])), (a3, .inr (10, [.int 0, .int 0, .int 0, .ref d3, .ref d4, .ref d5, .ref d6, .int 0, .int 0, .ref d9, .ref d10, .int 0, .ref d12, .ref d13, .ref d14, .ref d15, .int 0, .ref d17, .ref d18, .ref d19])), (d19, .inr (0, [.int 0, .ref e1, .ref e2, .ref e3]))] H := hP
  have hD : va_D A [(ta, .inr (9, [.int 0, .int 0, .int (-1), .ref a3, .ref a4, .int 0, .int 0, .int 0, .int 0])), (a3, .inr (10, [.int 0, .int 0, .int 0, .ref d3, .ref d4, .ref d5, .ref d6, .int 0, .int 0, .ref d9, .ref d10, .int 0, .ref d12, .ref d13, .ref d14, .ref d15, .int 0, .ref d17, .ref d18, .ref d19])), (d19, .inr (0, [.int 0, .ref e1, .ref e2, .ref e3]))] := hD
  refine lv_aload_n hx hb dX9_reads_17 rfl (lv_at hl 0 rfl) ?_
  refine lv_iconst (v := 0) hx hb dX9_reads_18 (by decide) ?_
  refine va_put (D := D) (ci := 9) (v := .int 0) (ty := tyX9 7) (C := RX9) (T := TX9) (N := 9) hx hb hts iT_X9 tyX9 tyX9_ok nmX9 hown hK hP hD hS 0 rfl rfl 7 (by decide) (hts _ tw_1_206) (fun _ h9 => h9) rfl (tyX9_ok 7 (by decide)) rfl rfl (Nat.le_of_ble_eq_true rfl) dX9_reads_19 (fun H locs hP hD hS => ?_)
  have hP : va_P D vwCl [(ta, .inr (9, [.int 0, .int 0, .int (-1), .ref a3, .ref a4, .int 0, .int 0, .int 0, .int 0])), (a3, .inr (10, [.int 0, .int 0, .int 0, .ref d3, .ref d4, .ref d5, .ref d6, .int 0, .int 0, .ref d9, .ref d10, .int 0, .ref d12, .ref d13, .ref d14, .ref d15, .int 0, .ref d17, .ref d18, .ref d19])), (d19, .inr (0, [.int 0, .ref e1, .ref e2, .ref e3]))] H := hP
  have hD : va_D A [(ta, .inr (9, [.int 0, .int 0, .int (-1), .ref a3, .ref a4, .int 0, .int 0, .int 0, .int 0])), (a3, .inr (10, [.int 0, .int 0, .int 0, .ref d3, .ref d4, .ref d5, .ref d6, .int 0, .int 0, .ref d9, .ref d10, .int 0, .ref d12, .ref d13, .ref d14, .ref d15, .int 0, .ref d17, .ref d18, .ref d19])), (d19, .inr (0, [.int 0, .ref e1, .ref e2, .ref e3]))] := hD
  refine lv_iconst (v := 0) hx hb dX9_reads_22 (by decide) ?_
  refine lv_istore_n (lv' := [(1, .int 0), (0, .ref ta)]) hx hb dX9_reads_23 rfl hl (by decide) rfl (fun ls hl => ?_)
  refine lv_iload_n hx hb dX9_reads_24 rfl (lv_at hl 0 rfl) ?_
  refine lv_sipush (v := 1000) hx hb dX9_reads_25 (by decide) ?_
  refine lv_icmp_gt (tgt := 72) hx hb dX9_reads_28 (by decide) (fun c9 => absurd c9 (by decide)) (fun _ => ?_)
  refine lv_aload_n hx hb dX9_reads_31 rfl (lv_at hl 1 rfl) ?_
  have hPc := hP.sub (ws' := [(ta, .inr (9, [.int 0, .int 0, .int (-1), .ref a3, .ref a4, .int 0, .int 0, .int 0, .int 0]))]) [0] rfl
  have hDc := hD.sub (ws' := [(ta, .inr (9, [.int 0, .int 0, .int (-1), .ref a3, .ref a4, .int 0, .int 0, .int 0, .int 0]))]) [0] (by decide) rfl
  have hFc := va_free (wc := [(ta, .inr (9, [.int 0, .int 0, .int (-1), .ref a3, .ref a4, .int 0, .int 0, .int 0, .int 0]))]) hD hS hA [0] rfl
  refine va_callv (va_runV (C := RX9) (As := []) (rest := []) ⟨hx, hb, hml, hown, hts⟩ (c_X9_advance l D k ta a3 a4 H.size) (cwV 0 hts (gV tw_2_238 tw_3_0 tw_p_0 tw_1_2 tw_3_1) rfl rfl rfl hdV_X9_advance ⟨Nat.le_of_ble_eq_true rfl, Nat.le_of_ble_eq_true rfl⟩) (cz_V hK hPc hDc hN (ci := 9) (q0 := 0) rfl rfl []) rfl rfl hl.1 rfl (lv_room (Nat.le_of_ble_eq_true rfl)) dX9_reads_32 ⟨Nat.le_of_ble_eq_true rfl, Nat.le_of_ble_eq_true rfl⟩) hS (fun q _ h => hFc q h) hFc (fun uZ tZ H1 locs ht hvm hw hB hz1 hk1 hS => ?_)
  obtain ⟨hP1, hK1, hD1⟩ := hB
  rw [ht] at hP1
  obtain ⟨hP, hD⟩ := va_join (wr := [(a3, .inr (10, [.int 0, .int 0, .int 0, .ref d3, .ref d4, .ref d5, .ref d6, .int 0, .int 0, .ref d9, .ref d10, .int 0, .ref d12, .ref d13, .ref d14, .ref d15, .int 0, .ref d17, .ref d18, .ref d19])), (d19, .inr (0, [.int 0, .ref e1, .ref e2, .ref e3]))]) (w1 := [(ta, .inr (9, [.int 0, .int 0, .int (-1), .ref a3, .ref a4, .int 0, .int 0, .int 0, .int 0]))]) hP hD [0] [1, 2] rfl rfl (by decide) (by decide) hk1 hFc hP1 hD1
  clear hK1 hP1 hD1 hPc hDc hFc
  clear hk1 hz1 ht hvm
  have hP : va_P D vwCl [(a3, .inr (10, [.int 0, .int 0, .int 0, .ref d3, .ref d4, .ref d5, .ref d6, .int 0, .int 0, .ref d9, .ref d10, .int 0, .ref d12, .ref d13, .ref d14, .ref d15, .int 0, .ref d17, .ref d18, .ref d19])), (d19, .inr (0, [.int 0, .ref e1, .ref e2, .ref e3])), (ta, .inr (9, [.int 0, .int 0, .int (-1), .ref a3, .ref a4, .int 0, .int 0, .int 0, .int 0]))] H1 := hP
  have hD : va_D A [(a3, .inr (10, [.int 0, .int 0, .int 0, .ref d3, .ref d4, .ref d5, .ref d6, .int 0, .int 0, .ref d9, .ref d10, .int 0, .ref d12, .ref d13, .ref d14, .ref d15, .int 0, .ref d17, .ref d18, .ref d19])), (d19, .inr (0, [.int 0, .ref e1, .ref e2, .ref e3])), (ta, .inr (9, [.int 0, .int 0, .int (-1), .ref a3, .ref a4, .int 0, .int 0, .int 0, .int 0]))] := hD
  generalize H1 = H at hP hS ⊢
  clear hw
  refine lv_aload_n hx hb dX9_reads_35 rfl (lv_at hl 1 rfl) ?_
  refine va_get (D := D) (ci := 9) (v := .int 0) (C := RX9) (T := TX9) (N := 9) hx hb hts iT_X9 hown hK hP 2 rfl rfl 5 (by decide) (hts _ tw_1_204) (fun _ h9 => h9) rfl dX9_reads_36 ?_
  refine lv_if_ne (tgt := 44) hx hb dX9_reads_39 (by decide) (fun c9 => absurd c9 (by decide)) (fun _ => ?_)
  refine lv_iconst (v := 1) hx hb dX9_reads_42 (by decide) ?_
  have hP9 := hP.sub (ws' := [(ta, .inr (9, [.int 0, .int 0, .int (-1), .ref a3, .ref a4, .int 0, .int 0, .int 0, .int 0])), (a3, .inr (10, [.int 0, .int 0, .int 0, .ref d3, .ref d4, .ref d5, .ref d6, .int 0, .int 0, .ref d9, .ref d10, .int 0, .ref d12, .ref d13, .ref d14, .ref d15, .int 0, .ref d17, .ref d18, .ref d19])), (d19, .inr (0, [.int 0, .ref e1, .ref e2, .ref e3]))]) [2, 0, 1] rfl
  have hD9 := hD.sub (ws' := [(ta, .inr (9, [.int 0, .int 0, .int (-1), .ref a3, .ref a4, .int 0, .int 0, .int 0, .int 0])), (a3, .inr (10, [.int 0, .int 0, .int 0, .ref d3, .ref d4, .ref d5, .ref d6, .int 0, .int 0, .ref d9, .ref d10, .int 0, .ref d12, .ref d13, .ref d14, .ref d15, .int 0, .ref d17, .ref d18, .ref d19])), (d19, .inr (0, [.int 0, .ref e1, .ref e2, .ref e3]))]) [2, 0, 1] (by decide) rfl
  exact W.zret (v := 1) hx hb hr (by decide) (fun tZ ht hW => ⟨⟨1, (), rfl, rfl, by rw [ht]; exact hP9, va_K.moved hW.alike hK, hD9⟩, hS.F ht⟩) hS.2.2 dX9_reads_43
set_option maxHeartbeats 4000000 in
set_option maxRecDepth 100000 in
theorem c_X11_town (l : Launch) (D : va_G) (k : Nat → ClassId) (g : Nat) (g0 : Nat) (g1 : Nat) (g2 : Nat) (g4 : Nat) (g5 : Nat) (g6 : Nat) (g7 : Nat) (g8 : Nat) (g9 : Nat) (g10 : Nat) (g11 : Nat) (g12 : Nat) (a3 : Nat) (a4 : Nat) (d3 : Nat) (d4 : Nat) (d5 : Nat) (d6 : Nat) (d9 : Nat) (d10 : Nat) (d12 : Nat) (d13 : Nat) (d14 : Nat) (d15 : Nat) (d17 : Nat) (d18 : Nat) (d19 : Nat) (e1 : Nat) (e2 : Nat) (e3 : Nat) (sz : Nat) : Met l yX11_town (ww yX11_town cX11_town 2 (some .int)) ({ frames := 2, cells := 0, slots := 0, locals := 41 }) (Pre0 D k [(g, .inr (11, [.ref g0, .ref g1, .ref g2, .int 0, .ref g4, .ref g5, .ref g6, .ref g7, .ref g8, .ref g9, .ref g10, .ref g11, .ref g12])), (g0, .inr (9, [.int 0, .int 0, .int (-1), .ref a3, .ref a4, .int 0, .int 0, .int 0, .int 0])), (a3, .inr (10, [.int 0, .int 0, .int 0, .ref d3, .ref d4, .ref d5, .ref d6, .int 0, .int 0, .ref d9, .ref d10, .int 0, .ref d12, .ref d13, .ref d14, .ref d15, .int 0, .ref d17, .ref d18, .ref d19])), (d19, .inr (0, [.int 0, .ref e1, .ref e2, .ref e3]))] sz [.ref g]) (va_Qi (fun (r : Int32) (_ : Unit) => r = 0) (fun (_ : Unit) tZ => Bw D k (va_A [(g, .inr (11, [.ref g0, .ref g1, .ref g2, .int 0, .ref g4, .ref g5, .ref g6, .ref g7, .ref g8, .ref g9, .ref g10, .ref g11, .ref g12])), (g0, .inr (9, [.int 0, .int 0, .int (-1), .ref a3, .ref a4, .int 0, .int 0, .int 0, .int 0])), (a3, .inr (10, [.int 0, .int 0, .int 0, .ref d3, .ref d4, .ref d5, .ref d6, .int 0, .int 0, .ref d9, .ref d10, .int 0, .ref d12, .ref d13, .ref d14, .ref d15, .int 0, .ref d17, .ref d18, .ref d19])), (d19, .inr (0, [.int 0, .ref e1, .ref e2, .ref e3]))] sz) [] tZ) (va_A [(g, .inr (11, [.ref g0, .ref g1, .ref g2, .int 0, .ref g4, .ref g5, .ref g6, .ref g7, .ref g8, .ref g9, .ref g10, .ref g11, .ref g12])), (g0, .inr (9, [.int 0, .int 0, .int (-1), .ref a3, .ref a4, .int 0, .int 0, .int 0, .int 0])), (a3, .inr (10, [.int 0, .int 0, .int 0, .ref d3, .ref d4, .ref d5, .ref d6, .int 0, .int 0, .ref d9, .ref d10, .int 0, .ref d12, .ref d13, .ref d14, .ref d15, .int 0, .ref d17, .ref d18, .ref d19])), (d19, .inr (0, [.int 0, .ref e1, .ref e2, .ref e3]))] sz)) 0 0 (va_A [(g, .inr (11, [.ref g0, .ref g1, .ref g2, .int 0, .ref g4, .ref g5, .ref g6, .ref g7, .ref g8, .ref g9, .ref g10, .ref g11, .ref g12])), (g0, .inr (9, [.int 0, .int 0, .int (-1), .ref a3, .ref a4, .int 0, .int 0, .int 0, .int 0])), (a3, .inr (10, [.int 0, .int 0, .int 0, .ref d3, .ref d4, .ref d5, .ref d6, .int 0, .int 0, .ref d9, .ref d10, .int 0, .ref d12, .ref d13, .ref d14, .ref d15, .int 0, .ref d17, .ref d18, .ref d19])), (d19, .inr (0, [.int 0, .ref e1, .ref e2, .ref e3]))] sz) := by
  refine Met.ofW (cc := cX11_town) (maxL := 2) (ret := (some .int)) (by decide +kernel) rfl ?_
  intro p e s m args below meth c s₁ B hml hv
  obtain ⟨rfl, hsz, hP, hK, hD0, hN⟩ := hv
  have hx := B.exec
  have hb := B.bytes
  have hr := B.returns
  have hts : ∀ w ∈ TT, w.before _ s = true := fun w h => atoms_spec (ws := ww yX11_town cX11_town 2 (some .int)) B.pre w (List.mem_cons_of_mem _ h)
  have hown : s.vm.findClass RX11 = some m.cls := findClass_of_methodNamed B.named
  have hlocks := B.notSynchronized
  subst hsz
  have hD := hD0.self (sz := s.heap.size)
  generalize hAe : va_A [(g, .inr (11, [.ref g0, .ref g1, .ref g2, .int 0, .ref g4, .ref g5, .ref g6, .ref g7, .ref g8, .ref g9, .ref g10, .ref g11, .ref g12])), (g0, .inr (9, [.int 0, .int 0, .int (-1), .ref a3, .ref a4, .int 0, .int 0, .int 0, .int 0])), (a3, .inr (10, [.int 0, .int 0, .int 0, .ref d3, .ref d4, .ref d5, .ref d6, .int 0, .int 0, .ref d9, .ref d10, .int 0, .ref d12, .ref d13, .ref d14, .ref d15, .int 0, .ref d17, .ref d18, .ref d19])), (d19, .inr (0, [.int 0, .ref e1, .ref e2, .ref e3]))] s.heap.size = A at hD ⊢
  have hA : ∀ q : Nat, s.heap.size ≤ q → A q := fun q h => by rw [← hAe]; exact Or.inr h
  have hS : va_S A s.heap s.heap [] := va_S.rf
  have hl := lv_entry ([.ref g]) (n := 2) (Nat.le_of_ble_eq_true rfl)
  rw [lg_entry_eq]
  generalize (lg_sl ([.ref g]) ++ List.replicate (2 - (lg_sl ([.ref g])).length) Slot.unset).toArray = ls at hl ⊢
  have hl : lv_has ls 2 [(0, .ref g)] := hl
  refine lv_aload_n hx hb dX11_town_0 rfl (lv_at hl 0 rfl) ?_
  refine va_get (D := D) (ci := 11) (v := .ref g0) (C := RX11) (T := TX11) (N := 13) hx hb hts iT_X11 hown hK hP 0 rfl rfl 0 (by decide) (hts _ tw_2_170) (fun _ h9 => h9) rfl dX11_town_1 ?_
  have hPc := hP.sub (ws' := [(g0, .inr (9, [.int 0, .int 0, .int (-1), .ref a3, .ref a4, .int 0, .int 0, .int 0, .int 0])), (a3, .inr (10, [.int 0, .int 0, .int 0, .ref d3, .ref d4, .ref d5, .ref d6, .int 0, .int 0, .ref d9, .ref d10, .int 0, .ref d12, .ref d13, .ref d14, .ref d15, .int 0, .ref d17, .ref d18, .ref d19])), (d19, .inr (0, [.int 0, .ref e1, .ref e2, .ref e3]))]) [1, 2, 3] rfl
  have hDc := hD.sub (ws' := [(g0, .inr (9, [.int 0, .int 0, .int (-1), .ref a3, .ref a4, .int 0, .int 0, .int 0, .int 0])), (a3, .inr (10, [.int 0, .int 0, .int 0, .ref d3, .ref d4, .ref d5, .ref d6, .int 0, .int 0, .ref d9, .ref d10, .int 0, .ref d12, .ref d13, .ref d14, .ref d15, .int 0, .ref d17, .ref d18, .ref d19])), (d19, .inr (0, [.int 0, .ref e1, .ref e2, .ref e3]))]) [1, 2, 3] (by decide) rfl
  have hFc := va_free (wc := [(g0, .inr (9, [.int 0, .int 0, .int (-1), .ref a3, .ref a4, .int 0, .int 0, .int 0, .int 0])), (a3, .inr (10, [.int 0, .int 0, .int 0, .ref d3, .ref d4, .ref d5, .ref d6, .int 0, .int 0, .ref d9, .ref d10, .int 0, .ref d12, .ref d13, .ref d14, .ref d15, .int 0, .ref d17, .ref d18, .ref d19])), (d19, .inr (0, [.int 0, .ref e1, .ref e2, .ref e3]))]) hD hS hA [1, 2, 3] rfl
  refine va_calli (va_runV (C := RX9) (As := []) (rest := []) ⟨hx, hb, hml, hown, hts⟩ (c_X9_reads l D k g0 a3 a4 d3 d4 d5 d6 d9 d10 d12 d13 d14 d15 d17 d18 d19 e1 e2 e3 s.heap.size) (cwV 0 hts (gV tw_2_230 tw_2_231 tw_2_232 tw_1_2 tw_2_233) rfl rfl rfl hdV_X9_reads ⟨Nat.le_of_ble_eq_true rfl, Nat.le_of_ble_eq_true rfl⟩) (cz_V hK hPc hDc hN (ci := 9) (q0 := 0) rfl rfl []) rfl rfl hl.1 rfl (lv_room (Nat.le_of_ble_eq_true rfl)) dX11_town_4 ⟨Nat.le_of_ble_eq_true rfl, Nat.le_of_ble_eq_true rfl⟩) hS (fun q _ h => hFc q h) hFc (fun r_1 uZ tZ H1 locs ht hvm hw hB hz1 hk1 hS => ?_)
  obtain ⟨hP1, hK1, hD1⟩ := hB
  rw [ht] at hP1
  obtain ⟨hP, hD⟩ := va_join (wr := [(g, .inr (11, [.ref g0, .ref g1, .ref g2, .int 0, .ref g4, .ref g5, .ref g6, .ref g7, .ref g8, .ref g9, .ref g10, .ref g11, .ref g12]))]) (w1 := [(g0, .inr (9, [.int 0, .int 0, .int (-1), .ref a3, .ref a4, .int 0, .int 0, .int 0, .int 0])), (a3, .inr (10, [.int 0, .int 0, .int 0, .ref d3, .ref d4, .ref d5, .ref d6, .int 0, .int 0, .ref d9, .ref d10, .int 0, .ref d12, .ref d13, .ref d14, .ref d15, .int 0, .ref d17, .ref d18, .ref d19])), (d19, .inr (0, [.int 0, .ref e1, .ref e2, .ref e3]))]) hP hD [1, 2, 3] [0] rfl rfl (by decide) (by decide) hk1 hFc hP1 hD1
  clear hK1 hP1 hD1 hPc hDc hFc
  clear hk1 hz1 ht hvm
  have hP : va_P D vwCl [(g, .inr (11, [.ref g0, .ref g1, .ref g2, .int 0, .ref g4, .ref g5, .ref g6, .ref g7, .ref g8, .ref g9, .ref g10, .ref g11, .ref g12])), (g0, .inr (9, [.int 0, .int 0, .int (-1), .ref a3, .ref a4, .int 0, .int 0, .int 0, .int 0])), (a3, .inr (10, [.int 0, .int 0, .int 0, .ref d3, .ref d4, .ref d5, .ref d6, .int 0, .int 0, .ref d9, .ref d10, .int 0, .ref d12, .ref d13, .ref d14, .ref d15, .int 0, .ref d17, .ref d18, .ref d19])), (d19, .inr (0, [.int 0, .ref e1, .ref e2, .ref e3]))] H1 := hP
  have hD : va_D A [(g, .inr (11, [.ref g0, .ref g1, .ref g2, .int 0, .ref g4, .ref g5, .ref g6, .ref g7, .ref g8, .ref g9, .ref g10, .ref g11, .ref g12])), (g0, .inr (9, [.int 0, .int 0, .int (-1), .ref a3, .ref a4, .int 0, .int 0, .int 0, .int 0])), (a3, .inr (10, [.int 0, .int 0, .int 0, .ref d3, .ref d4, .ref d5, .ref d6, .int 0, .int 0, .ref d9, .ref d10, .int 0, .ref d12, .ref d13, .ref d14, .ref d15, .int 0, .ref d17, .ref d18, .ref d19])), (d19, .inr (0, [.int 0, .ref e1, .ref e2, .ref e3]))] := hD
  generalize H1 = H at hP hS ⊢
  obtain rfl : r_1 = 1 := hw
  refine lv_if_ne (tgt := 13) hx hb dX11_town_7 (by decide) (fun _ => ?_) (fun c9 => absurd c9 (by decide))
  refine lv_aload_n hx hb dX11_town_13 rfl (lv_at hl 0 rfl) ?_
  refine va_get (D := D) (ci := 11) (v := .ref g1) (C := RX11) (T := TX11) (N := 13) hx hb hts iT_X11 hown hK hP 0 rfl rfl 1 (by decide) (hts _ tw_2_171) (fun _ h9 => h9) rfl dX11_town_14 ?_
  refine lv_astore_n (lv' := [(1, .ref g1), (0, .ref g)]) hx hb dX11_town_17 rfl hl (by decide) rfl (fun ls hl => ?_)
  refine lv_aload_n hx hb dX11_town_18 rfl (lv_at hl 1 rfl) ?_
  refine lv_aload_n hx hb dX11_town_19 rfl (lv_at hl 1 rfl) ?_
  refine va_get (D := D) (ci := 11) (v := .ref g0) (C := RX11) (T := TX11) (N := 13) hx hb hts iT_X11 hown hK hP 0 rfl rfl 0 (by decide) (hts _ tw_2_170) (fun _ h9 => h9) rfl dX11_town_20 ?_
  refine va_get (D := D) (ci := 9) (v := .ref a3) (C := RX9) (T := TX9) (N := 9) hx hb hts iT_X9 hown hK hP 1 rfl rfl 3 (by decide) (hts _ tw_1_202) (fun _ h9 => h9) rfl dX11_town_23 ?_
  refine va_put (D := D) (ci := 11) (v := .ref a3) (ty := tyX11 1) (C := RX11) (T := TX11) (N := 13) hx hb hts iT_X11 tyX11 tyX11_ok nmX11 hown hK hP hD hS 0 rfl rfl 1 (by decide) (hts _ tw_2_171) (fun _ h9 => h9) rfl (tyX11_ok 1 (by decide)) rfl rfl (Nat.le_of_ble_eq_true rfl) dX11_town_26 (fun H locs hP hD hS => ?_)
  have hP : va_P D vwCl [(g, .inr (11, [.ref g0, .ref a3, .ref g2, .int 0, .ref g4, .ref g5, .ref g6, .ref g7, .ref g8, .ref g9, .ref g10, .ref g11, .ref g12])), (g0, .inr (9, [.int 0, .int 0, .int (-1), .ref a3, .ref a4, .int 0, .int 0, .int 0, .int 0])), (a3, .inr (10, [.int 0, .int 0, .int 0, .ref d3, .ref d4, .ref d5, .ref d6, .int 0, .int 0, .ref d9, .ref d10, .int 0, .ref d12, .ref d13, .ref d14, .ref d15, .int 0, .ref d17, .ref d18, .ref d19])), (d19, .inr (0, [.int 0, .ref e1, .ref e2, .ref e3]))] H := hP
  have hD : va_D A [(g, .inr (11, [.ref g0, .ref a3, .ref g2, .int 0, .ref g4, .ref g5, .ref g6, .ref g7, .ref g8, .ref g9, .ref g10, .ref g11, .ref g12])), (g0, .inr (9, [.int 0, .int 0, .int (-1), .ref a3, .ref a4, .int 0, .int 0, .int 0, .int 0])), (a3, .inr (10, [.int 0, .int 0, .int 0, .ref d3, .ref d4, .ref d5, .ref d6, .int 0, .int 0, .ref d9, .ref d10, .int 0, .ref d12, .ref d13, .ref d14, .ref d15, .int 0, .ref d17, .ref d18, .ref d19])), (d19, .inr (0, [.int 0, .ref e1, .ref e2, .ref e3]))] := hD
  refine lv_aload_n hx hb dX11_town_29 rfl (lv_at hl 1 rfl) ?_
  refine va_get (D := D) (ci := 11) (v := .ref g0) (C := RX11) (T := TX11) (N := 13) hx hb hts iT_X11 hown hK hP 0 rfl rfl 0 (by decide) (hts _ tw_2_170) (fun _ h9 => h9) rfl dX11_town_30 ?_
  refine lv_aload_n hx hb dX11_town_33 rfl (lv_at hl 0 rfl) ?_
  refine va_put (D := D) (ci := 9) (v := .ref g1) (ty := tyX9 3) (C := RX9) (T := TX9) (N := 9) hx hb hts iT_X9 tyX9 tyX9_ok nmX9 hown hK hP hD hS 1 rfl rfl 3 (by decide) (hts _ tw_1_202) (fun _ h9 => h9) rfl (tyX9_ok 3 (by decide)) rfl rfl (Nat.le_of_ble_eq_true rfl) dX11_town_34 (fun H locs hP hD hS => ?_)
  have hP : va_P D vwCl [(g, .inr (11, [.ref g0, .ref a3, .ref g2, .int 0, .ref g4, .ref g5, .ref g6, .ref g7, .ref g8, .ref g9, .ref g10, .ref g11, .ref g12])), (g0, .inr (9, [.int 0, .int 0, .int (-1), .ref g1, .ref a4, .int 0, .int 0, .int 0, .int 0])), (a3, .inr (10, [.int 0, .int 0, .int 0, .ref d3, .ref d4, .ref d5, .ref d6, .int 0, .int 0, .ref d9, .ref d10, .int 0, .ref d12, .ref d13, .ref d14, .ref d15, .int 0, .ref d17, .ref d18, .ref d19])), (d19, .inr (0, [.int 0, .ref e1, .ref e2, .ref e3]))] H := hP
  have hD : va_D A [(g, .inr (11, [.ref g0, .ref a3, .ref g2, .int 0, .ref g4, .ref g5, .ref g6, .ref g7, .ref g8, .ref g9, .ref g10, .ref g11, .ref g12])), (g0, .inr (9, [.int 0, .int 0, .int (-1), .ref g1, .ref a4, .int 0, .int 0, .int 0, .int 0])), (a3, .inr (10, [.int 0, .int 0, .int 0, .ref d3, .ref d4, .ref d5, .ref d6, .int 0, .int 0, .ref d9, .ref d10, .int 0, .ref d12, .ref d13, .ref d14, .ref d15, .int 0, .ref d17, .ref d18, .ref d19])), (d19, .inr (0, [.int 0, .ref e1, .ref e2, .ref e3]))] := hD
  refine lv_aload_n hx hb dX11_town_37 rfl (lv_at hl 1 rfl) ?_
  refine va_get (D := D) (ci := 11) (v := .ref g0) (C := RX11) (T := TX11) (N := 13) hx hb hts iT_X11 hown hK hP 0 rfl rfl 0 (by decide) (hts _ tw_2_170) (fun _ h9 => h9) rfl dX11_town_38 ?_
  refine lv_iconst (v := 0) hx hb dX11_town_41 (by decide) ?_
  refine va_put (D := D) (ci := 9) (v := .int 0) (ty := tyX9 0) (C := RX9) (T := TX9) (N := 9) hx hb hts iT_X9 tyX9 tyX9_ok nmX9 hown hK hP hD hS 1 rfl rfl 0 (by decide) (hts _ tw_1_196) (fun _ h9 => h9) rfl (tyX9_ok 0 (by decide)) rfl rfl (Nat.le_of_ble_eq_true rfl) dX11_town_42 (fun H locs hP hD hS => ?_)
  have hP : va_P D vwCl [(g, .inr (11, [.ref g0, .ref a3, .ref g2, .int 0, .ref g4, .ref g5, .ref g6, .ref g7, .ref g8, .ref g9, .ref g10, .ref g11, .ref g12])), (g0, .inr (9, [.int 0, .int 0, .int (-1), .ref g1, .ref a4, .int 0, .int 0, .int 0, .int 0])), (a3, .inr (10, [.int 0, .int 0, .int 0, .ref d3, .ref d4, .ref d5, .ref d6, .int 0, .int 0, .ref d9, .ref d10, .int 0, .ref d12, .ref d13, .ref d14, .ref d15, .int 0, .ref d17, .ref d18, .ref d19])), (d19, .inr (0, [.int 0, .ref e1, .ref e2, .ref e3]))] H := hP
  have hD : va_D A [(g, .inr (11, [.ref g0, .ref a3, .ref g2, .int 0, .ref g4, .ref g5, .ref g6, .ref g7, .ref g8, .ref g9, .ref g10, .ref g11, .ref g12])), (g0, .inr (9, [.int 0, .int 0, .int (-1), .ref g1, .ref a4, .int 0, .int 0, .int 0, .int 0])), (a3, .inr (10, [.int 0, .int 0, .int 0, .ref d3, .ref d4, .ref d5, .ref d6, .int 0, .int 0, .ref d9, .ref d10, .int 0, .ref d12, .ref d13, .ref d14, .ref d15, .int 0, .ref d17, .ref d18, .ref d19])), (d19, .inr (0, [.int 0, .ref e1, .ref e2, .ref e3]))] := hD
  refine lv_aload_n hx hb dX11_town_45 rfl (lv_at hl 1 rfl) ?_
  refine va_get (D := D) (ci := 11) (v := .ref a3) (C := RX11) (T := TX11) (N := 13) hx hb hts iT_X11 hown hK hP 0 rfl rfl 1 (by decide) (hts _ tw_2_171) (fun _ h9 => h9) rfl dX11_town_46 ?_
  refine va_get (D := D) (ci := 10) (v := .int 0) (C := RX10) (T := TX10) (N := 20) hx hb hts iT_X10 hown hK hP 2 rfl rfl 1 (by decide) (hts _ tw_1_75) (fun _ h9 => h9) rfl dX11_town_49 ?_
  have hP9 := hP.sub (ws' := []) [] rfl
  have hD9 := hD.sub (ws' := []) [] (by decide) rfl
  exact W.iret (v := 0) hx hb hr (fun tZ ht hW => ⟨⟨0, (), rfl, rfl, by rw [ht]; exact hP9, va_K.moved hW.alike hK, hD9⟩, hS.F ht⟩) hS.2.2 dX11_town_52
set_option maxHeartbeats 4000000 in
set_option maxRecDepth 100000 in
theorem c_J6_bitCount_0f7a4 (l : Launch) (D : va_G) (k : Nat → ClassId) (sz : Nat) : Met l yJ6_bitCount_0f7a4 (ww yJ6_bitCount_0f7a4 cJ6_bitCount_0f7a4 1 (some .int)) ({ frames := 0, cells := 0, slots := 0, locals := 0 }) (Pre0 D k [] sz [.int 0]) (va_Qi (fun (r : Int32) (_ : Unit) => r = 0) (fun (_ : Unit) tZ => Bw D k (va_A [] sz) [] tZ) (va_A [] sz)) 0 0 (va_A [] sz) := by
  refine Met.ofW (cc := cJ6_bitCount_0f7a4) (maxL := 1) (ret := (some .int)) (by decide +kernel) rfl ?_
  intro p e s m args below meth c s₁ B hml hv
  obtain ⟨rfl, hsz, hP, hK, hD0, hN⟩ := hv
  have hx := B.exec
  have hb := B.bytes
  have hr := B.returns
  have hts : ∀ w ∈ TT, w.before _ s = true := fun w h => atoms_spec (ws := ww yJ6_bitCount_0f7a4 cJ6_bitCount_0f7a4 1 (some .int)) B.pre w (List.mem_cons_of_mem _ h)
  have hown : s.vm.findClass RJ6 = some m.cls := findClass_of_methodNamed B.named
  have hlocks := B.notSynchronized
  subst hsz
  have hD := hD0.self (sz := s.heap.size)
  generalize hAe : va_A [] s.heap.size = A at hD ⊢
  have hA : ∀ q : Nat, s.heap.size ≤ q → A q := fun q h => by rw [← hAe]; exact Or.inr h
  have hS : va_S A s.heap s.heap [] := va_S.rf
  have hl := lv_entry ([.int 0]) (n := 1) (Nat.le_of_ble_eq_true rfl)
  rw [lg_entry_eq]
  generalize (lg_sl ([.int 0]) ++ List.replicate (1 - (lg_sl ([.int 0])).length) Slot.unset).toArray = ls at hl ⊢
  have hl : lv_has ls 1 [(0, .int 0)] := hl
  refine lv_iload_n hx hb dJ6_bitCount_0f7a4_0 rfl (lv_at hl 0 rfl) ?_
  refine lv_iload_n hx hb dJ6_bitCount_0f7a4_1 rfl (lv_at hl 0 rfl) ?_
  refine lv_iconst (v := 1) hx hb dJ6_bitCount_0f7a4_2 (by decide) ?_
  refine lv_iushr (v := 0) hx hb dJ6_bitCount_0f7a4_3 (by decide) ?_
  refine lv_ldcw (v := 1431655765) hx hb hown (hts _ tw_4_103) dJ6_bitCount_0f7a4_4 ?_
  refine lv_iand hx hb dJ6_bitCount_0f7a4_7 ?_
  refine lv_topi (fun x_1 ex_1 => ?_)
  obtain rfl : x_1 = 0 := ex_1.trans (by decide)
  refine lv_isub hx hb dJ6_bitCount_0f7a4_8 ?_
  refine lv_topi (fun x_2 ex_2 => ?_)
  obtain rfl : x_2 = 0 := ex_2.trans (by decide)
  refine lv_istore_n (lv' := [(0, .int 0)]) hx hb dJ6_bitCount_0f7a4_9 rfl hl (by decide) rfl (fun ls hl => ?_)
  refine lv_iload_n hx hb dJ6_bitCount_0f7a4_10 rfl (lv_at hl 0 rfl) ?_
  refine lv_ldcw (v := 858993459) hx hb hown (hts _ tw_4_104) dJ6_bitCount_0f7a4_11 ?_
  refine lv_iand hx hb dJ6_bitCount_0f7a4_14 ?_
  refine lv_topi (fun x_3 ex_3 => ?_)
  obtain rfl : x_3 = 0 := ex_3.trans (by decide)
  refine lv_iload_n hx hb dJ6_bitCount_0f7a4_15 rfl (lv_at hl 0 rfl) ?_
  refine lv_iconst (v := 2) hx hb dJ6_bitCount_0f7a4_16 (by decide) ?_
  refine lv_iushr (v := 0) hx hb dJ6_bitCount_0f7a4_17 (by decide) ?_
  refine lv_ldcw (v := 858993459) hx hb hown (hts _ tw_4_104) dJ6_bitCount_0f7a4_18 ?_
  refine lv_iand hx hb dJ6_bitCount_0f7a4_21 ?_
  refine lv_topi (fun x_4 ex_4 => ?_)
  obtain rfl : x_4 = 0 := ex_4.trans (by decide)
  refine lv_iadd hx hb dJ6_bitCount_0f7a4_22 ?_
  refine lv_topi (fun x_5 ex_5 => ?_)
  obtain rfl : x_5 = 0 := ex_5.trans (by decide)
  refine lv_istore_n (lv' := [(0, .int 0)]) hx hb dJ6_bitCount_0f7a4_23 rfl hl (by decide) rfl (fun ls hl => ?_)
  refine lv_iload_n hx hb dJ6_bitCount_0f7a4_24 rfl (lv_at hl 0 rfl) ?_
  refine lv_iload_n hx hb dJ6_bitCount_0f7a4_25 rfl (lv_at hl 0 rfl) ?_
  refine lv_iconst (v := 4) hx hb dJ6_bitCount_0f7a4_26 (by decide) ?_
  refine lv_iushr (v := 0) hx hb dJ6_bitCount_0f7a4_27 (by decide) ?_
  refine lv_iadd hx hb dJ6_bitCount_0f7a4_28 ?_
  refine lv_topi (fun x_6 ex_6 => ?_)
  obtain rfl : x_6 = 0 := ex_6.trans (by decide)
  refine lv_ldcw (v := 252645135) hx hb hown (hts _ tw_4_105) dJ6_bitCount_0f7a4_29 ?_
  refine lv_iand hx hb dJ6_bitCount_0f7a4_32 ?_
  refine lv_topi (fun x_7 ex_7 => ?_)
  obtain rfl : x_7 = 0 := ex_7.trans (by decide)
  refine lv_istore_n (lv' := [(0, .int 0)]) hx hb dJ6_bitCount_0f7a4_33 rfl hl (by decide) rfl (fun ls hl => ?_)
  refine lv_iload_n hx hb dJ6_bitCount_0f7a4_34 rfl (lv_at hl 0 rfl) ?_
  refine lv_iload_n hx hb dJ6_bitCount_0f7a4_35 rfl (lv_at hl 0 rfl) ?_
  refine lv_bipush (v := 8) hx hb dJ6_bitCount_0f7a4_36 (by decide) ?_
  refine lv_iushr (v := 0) hx hb dJ6_bitCount_0f7a4_38 (by decide) ?_
  refine lv_iadd hx hb dJ6_bitCount_0f7a4_39 ?_
  refine lv_topi (fun x_8 ex_8 => ?_)
  obtain rfl : x_8 = 0 := ex_8.trans (by decide)
  refine lv_istore_n (lv' := [(0, .int 0)]) hx hb dJ6_bitCount_0f7a4_40 rfl hl (by decide) rfl (fun ls hl => ?_)
  refine lv_iload_n hx hb dJ6_bitCount_0f7a4_41 rfl (lv_at hl 0 rfl) ?_
  refine lv_iload_n hx hb dJ6_bitCount_0f7a4_42 rfl (lv_at hl 0 rfl) ?_
  refine lv_bipush (v := 16) hx hb dJ6_bitCount_0f7a4_43 (by decide) ?_
  refine lv_iushr (v := 0) hx hb dJ6_bitCount_0f7a4_45 (by decide) ?_
  refine lv_iadd hx hb dJ6_bitCount_0f7a4_46 ?_
  refine lv_topi (fun x_9 ex_9 => ?_)
  obtain rfl : x_9 = 0 := ex_9.trans (by decide)
  refine lv_istore_n (lv' := [(0, .int 0)]) hx hb dJ6_bitCount_0f7a4_47 rfl hl (by decide) rfl (fun ls hl => ?_)
  refine lv_iload_n hx hb dJ6_bitCount_0f7a4_48 rfl (lv_at hl 0 rfl) ?_
  refine lv_bipush (v := 63) hx hb dJ6_bitCount_0f7a4_49 (by decide) ?_
  refine lv_iand hx hb dJ6_bitCount_0f7a4_51 ?_
  refine lv_topi (fun x_10 ex_10 => ?_)
  obtain rfl : x_10 = 0 := ex_10.trans (by decide)
  have hP9 := hP.sub (ws' := []) [] rfl
  have hD9 := hD.sub (ws' := []) [] (by decide) rfl
  exact W.iret (v := 0) hx hb hr (fun tZ ht hW => ⟨⟨0, (), rfl, rfl, by rw [ht]; exact hP9, va_K.moved hW.alike hK, hD9⟩, hS.F ht⟩) hS.2.2 dJ6_bitCount_0f7a4_52
set_option maxHeartbeats 4000000 in
set_option maxRecDepth 100000 in
theorem c_X8_standing (l : Launch) (D : va_G) (k : Nat → ClassId) (rw : Nat) (w0 : Nat) (w1 : Nat) (w2 : Nat) (sz : Nat) : Met l yX8_standing (ww yX8_standing cX8_standing 1 (some .int)) ({ frames := 1, cells := 0, slots := 0, locals := 20 }) (Pre0 D k [(rw, .inr (8, [.ref w0, .ref w1, .ref w2, .int 0]))] sz [.ref rw]) (va_Qi (fun (r : Int32) (_ : Unit) => r = 0) (fun (_ : Unit) tZ => Bw D k (va_A [(rw, .inr (8, [.ref w0, .ref w1, .ref w2, .int 0]))] sz) [(rw, .inr (8, [.ref w0, .ref w1, .ref w2, .int 0]))] tZ) (va_A [(rw, .inr (8, [.ref w0, .ref w1, .ref w2, .int 0]))] sz)) 0 0 (va_A [(rw, .inr (8, [.ref w0, .ref w1, .ref w2, .int 0]))] sz) := by
  refine Met.ofW (cc := cX8_standing) (maxL := 1) (ret := (some .int)) (by decide +kernel) rfl ?_
  intro p e s m args below meth c s₁ B hml hv
  obtain ⟨rfl, hsz, hP, hK, hD0, hN⟩ := hv
  have hx := B.exec
  have hb := B.bytes
  have hr := B.returns
  have hts : ∀ w ∈ TT, w.before _ s = true := fun w h => atoms_spec (ws := ww yX8_standing cX8_standing 1 (some .int)) B.pre w (List.mem_cons_of_mem _ h)
  have hown : s.vm.findClass RX8 = some m.cls := findClass_of_methodNamed B.named
  have hlocks := B.notSynchronized
  subst hsz
  have hD := hD0.self (sz := s.heap.size)
  generalize hAe : va_A [(rw, .inr (8, [.ref w0, .ref w1, .ref w2, .int 0]))] s.heap.size = A at hD ⊢
  have hA : ∀ q : Nat, s.heap.size ≤ q → A q := fun q h => by rw [← hAe]; exact Or.inr h
  have hS : va_S A s.heap s.heap [] := va_S.rf
  have hl := lv_entry ([.ref rw]) (n := 1) (Nat.le_of_ble_eq_true rfl)
  rw [lg_entry_eq]
  generalize (lg_sl ([.ref rw]) ++ List.replicate (1 - (lg_sl ([.ref rw])).length) Slot.unset).toArray = ls at hl ⊢
  have hl : lv_has ls 1 [(0, .ref rw)] := hl
  refine lv_aload_n hx hb dX8_standing_0 rfl (lv_at hl 0 rfl) ?_
  refine va_get (D := D) (ci := 8) (v := .int 0) (C := RX8) (T := TX8) (N := 4) hx hb hts iT_X8 hown hK hP 0 rfl rfl 3 (by decide) (hts _ tw_2_0) (fun _ h9 => h9) rfl dX8_standing_1 ?_
  have hPc := hP.sub (ws' := []) [] rfl
  have hDc := hD.sub (ws' := []) [] (by decide) rfl
  have hFc := va_free (wc := []) hD hS hA [] rfl
  refine va_calli (va_runS (As := [.int 0]) (rest := []) ⟨hx, hb, hml, hown, hts⟩ (c_J6_bitCount_0f7a4 l D k s.heap.size) (va_cwS 1 hts (gS tw_5_233 tw_4_101 tw_1_20 tw_4_102) rfl rfl rfl hdS_J6_bitCount_0f7a4 ⟨Nat.le_of_ble_eq_true rfl, Nat.le_of_ble_eq_true rfl⟩) (cz_S hK hPc hDc hN [.int 0]) rfl rfl hl.1 rfl (lv_room (Nat.le_of_ble_eq_true rfl)) dX8_standing_4 ⟨Nat.le_of_ble_eq_true rfl, Nat.le_of_ble_eq_true rfl⟩) hS (fun q _ h => hFc q h) hFc (fun r_1 uZ tZ H1 locs ht hvm hw hB hz1 hk1 hS => ?_)
  obtain ⟨hP1, hK1, hD1⟩ := hB
  rw [ht] at hP1
  obtain ⟨hP, hD⟩ := va_join (wr := [(rw, .inr (8, [.ref w0, .ref w1, .ref w2, .int 0]))]) (w1 := []) hP hD [] [0] rfl rfl (by decide) (by decide) hk1 hFc hP1 hD1
  clear hK1 hP1 hD1 hPc hDc hFc
  clear hk1 hz1 ht hvm
  have hP : va_P D vwCl [(rw, .inr (8, [.ref w0, .ref w1, .ref w2, .int 0]))] H1 := hP
  have hD : va_D A [(rw, .inr (8, [.ref w0, .ref w1, .ref w2, .int 0]))] := hD
  generalize H1 = H at hP hS ⊢
  obtain rfl : r_1 = 0 := hw
  have hP9 := hP.sub (ws' := [(rw, .inr (8, [.ref w0, .ref w1, .ref w2, .int 0]))]) [0] rfl
  have hD9 := hD.sub (ws' := [(rw, .inr (8, [.ref w0, .ref w1, .ref w2, .int 0]))]) [0] (by decide) rfl
  exact W.iret (v := 0) hx hb hr (fun tZ ht hW => ⟨⟨0, (), rfl, rfl, by rw [ht]; exact hP9, va_K.moved hW.alike hK, hD9⟩, hS.F ht⟩) hS.2.2 dX8_standing_7
set_option maxHeartbeats 4000000 in
set_option maxRecDepth 100000 in
theorem c_X11_count (l : Launch) (D : va_G) (k : Nat → ClassId) (g : Nat) (g0 : Nat) (g1 : Nat) (g2 : Nat) (g4 : Nat) (g5 : Nat) (g6 : Nat) (g7 : Nat) (g8 : Nat) (g9 : Nat) (g10 : Nat) (g11 : Nat) (g12 : Nat) (t3 : Nat) (t4 : Nat) (t5 : Nat) (t6 : Nat) (t9 : Nat) (t10 : Nat) (t12 : Nat) (t13 : Nat) (t14 : Nat) (t15 : Nat) (t17 : Nat) (t18 : Nat) (t19 : Nat) (e1 : Nat) (e2 : Nat) (e3 : Nat) (a3 : Nat) (a4 : Nat) (w0 : Nat) (w1 : Nat) (w2 : Nat) (p0 : Int32) (sz : Nat) : Met l yX11_count (ww yX11_count cX11_count 2 (some .int)) ({ frames := 2, cells := 0, slots := 0, locals := 40 }) (Pre0 D k [(g, .inr (11, [.ref g0, .ref g1, .ref g2, .int 0, .ref g4, .ref g5, .ref g6, .ref g7, .ref g8, .ref g9, .ref g10, .ref g11, .ref g12])), (g1, .inr (10, [.int 0, .int 0, .int 0, .ref t3, .ref t4, .ref t5, .ref t6, .int 0, .int 0, .ref t9, .ref t10, .int 0, .ref t12, .ref t13, .ref t14, .ref t15, .int 0, .ref t17, .ref t18, .ref t19])), (t19, .inr (0, [.int 0, .ref e1, .ref e2, .ref e3])), (g0, .inr (9, [.int 0, .int 0, .int (-1), .ref a3, .ref a4, .int 0, .int 0, .int 0, .int 0])), (g4, .inr (8, [.ref w0, .ref w1, .ref w2, .int 0]))] sz [.ref g, .int p0]) (va_Qi (fun (r : Int32) (_ : Unit) => r = sp_count p0) (fun (_ : Unit) tZ => Bw D k (va_A [(g, .inr (11, [.ref g0, .ref g1, .ref g2, .int 0, .ref g4, .ref g5, .ref g6, .ref g7, .ref g8, .ref g9, .ref g10, .ref g11, .ref g12])), (g1, .inr (10, [.int 0, .int 0, .int 0, .ref t3, .ref t4, .ref t5, .ref t6, .int 0, .int 0, .ref t9, .ref t10, .int 0, .ref t12, .ref t13, .ref t14, .ref t15, .int 0, .ref t17, .ref t18, .ref t19])), (t19, .inr (0, [.int 0, .ref e1, .ref e2, .ref e3])), (g0, .inr (9, [.int 0, .int 0, .int (-1), .ref a3, .ref a4, .int 0, .int 0, .int 0, .int 0])), (g4, .inr (8, [.ref w0, .ref w1, .ref w2, .int 0]))] sz) [(g, .inr (11, [.ref g0, .ref g1, .ref g2, .int 0, .ref g4, .ref g5, .ref g6, .ref g7, .ref g8, .ref g9, .ref g10, .ref g11, .ref g12])), (g1, .inr (10, [.int 0, .int 0, .int 0, .ref t3, .ref t4, .ref t5, .ref t6, .int 0, .int 0, .ref t9, .ref t10, .int 0, .ref t12, .ref t13, .ref t14, .ref t15, .int 0, .ref t17, .ref t18, .ref t19])), (t19, .inr (0, [.int 0, .ref e1, .ref e2, .ref e3])), (g0, .inr (9, [.int 0, .int 0, .int (-1), .ref a3, .ref a4, .int 0, .int 0, .int 0, .int 0])), (g4, .inr (8, [.ref w0, .ref w1, .ref w2, .int 0]))] tZ) (va_A [(g, .inr (11, [.ref g0, .ref g1, .ref g2, .int 0, .ref g4, .ref g5, .ref g6, .ref g7, .ref g8, .ref g9, .ref g10, .ref g11, .ref g12])), (g1, .inr (10, [.int 0, .int 0, .int 0, .ref t3, .ref t4, .ref t5, .ref t6, .int 0, .int 0, .ref t9, .ref t10, .int 0, .ref t12, .ref t13, .ref t14, .ref t15, .int 0, .ref t17, .ref t18, .ref t19])), (t19, .inr (0, [.int 0, .ref e1, .ref e2, .ref e3])), (g0, .inr (9, [.int 0, .int 0, .int (-1), .ref a3, .ref a4, .int 0, .int 0, .int 0, .int 0])), (g4, .inr (8, [.ref w0, .ref w1, .ref w2, .int 0]))] sz)) 0 0 (va_A [(g, .inr (11, [.ref g0, .ref g1, .ref g2, .int 0, .ref g4, .ref g5, .ref g6, .ref g7, .ref g8, .ref g9, .ref g10, .ref g11, .ref g12])), (g1, .inr (10, [.int 0, .int 0, .int 0, .ref t3, .ref t4, .ref t5, .ref t6, .int 0, .int 0, .ref t9, .ref t10, .int 0, .ref t12, .ref t13, .ref t14, .ref t15, .int 0, .ref t17, .ref t18, .ref t19])), (t19, .inr (0, [.int 0, .ref e1, .ref e2, .ref e3])), (g0, .inr (9, [.int 0, .int 0, .int (-1), .ref a3, .ref a4, .int 0, .int 0, .int 0, .int 0])), (g4, .inr (8, [.ref w0, .ref w1, .ref w2, .int 0]))] sz) := by
  refine Met.ofW (cc := cX11_count) (maxL := 2) (ret := (some .int)) (by decide +kernel) rfl ?_
  intro p e s m args below meth c s₁ B hml hv
  obtain ⟨rfl, hsz, hP, hK, hD0, hN⟩ := hv
  have hx := B.exec
  have hb := B.bytes
  have hr := B.returns
  have hts : ∀ w ∈ TT, w.before _ s = true := fun w h => atoms_spec (ws := ww yX11_count cX11_count 2 (some .int)) B.pre w (List.mem_cons_of_mem _ h)
  have hown : s.vm.findClass RX11 = some m.cls := findClass_of_methodNamed B.named
  have hlocks := B.notSynchronized
  subst hsz
  have hD := hD0.self (sz := s.heap.size)
  generalize hAe : va_A [(g, .inr (11, [.ref g0, .ref g1, .ref g2, .int 0, .ref g4, .ref g5, .ref g6, .ref g7, .ref g8, .ref g9, .ref g10, .ref g11, .ref g12])), (g1, .inr (10, [.int 0, .int 0, .int 0, .ref t3, .ref t4, .ref t5, .ref t6, .int 0, .int 0, .ref t9, .ref t10, .int 0, .ref t12, .ref t13, .ref t14, .ref t15, .int 0, .ref t17, .ref t18, .ref t19])), (t19, .inr (0, [.int 0, .ref e1, .ref e2, .ref e3])), (g0, .inr (9, [.int 0, .int 0, .int (-1), .ref a3, .ref a4, .int 0, .int 0, .int 0, .int 0])), (g4, .inr (8, [.ref w0, .ref w1, .ref w2, .int 0]))] s.heap.size = A at hD ⊢
  have hA : ∀ q : Nat, s.heap.size ≤ q → A q := fun q h => by rw [← hAe]; exact Or.inr h
  have hS : va_S A s.heap s.heap [] := va_S.rf
  have hl := lv_entry ([.ref g, .int p0]) (n := 2) (Nat.le_of_ble_eq_true rfl)
  rw [lg_entry_eq]
  generalize (lg_sl ([.ref g, .int p0]) ++ List.replicate (2 - (lg_sl ([.ref g, .int p0])).length) Slot.unset).toArray = ls at hl ⊢
  have hl : lv_has ls 2 [(0, .ref g), (1, .int p0)] := hl
  refine lv_iload_n hx hb dX11_count_0 rfl (lv_at hl 1 rfl) ?_
  by_cases h_1 : p0 = 0
  · skip
    refine lv_tableIn (off := 51) (tgt := 52) hx hb dX11_count_1 (by rw [h_1]; decide) (by rw [h_1]; decide) (by rw [h_1]; decide) (by decide) ?_
    have zh_1 : p0.toInt = 0 := z_eq h_1
    refine lv_aload_n hx hb dX11_count_52 rfl (lv_at hl 0 rfl) ?_
    refine va_get (D := D) (ci := 11) (v := .ref g1) (C := RX11) (T := TX11) (N := 13) hx hb hts iT_X11 hown hK hP 0 rfl rfl 1 (by decide) (hts _ tw_2_171) (fun _ h9 => h9) rfl dX11_count_53 ?_
    refine va_get (D := D) (ci := 10) (v := .int 0) (C := RX10) (T := TX10) (N := 20) hx hb hts iT_X10 hown hK hP 1 rfl rfl 0 (by decide) (hts _ tw_1_73) (fun _ h9 => h9) rfl dX11_count_56 ?_
    have hP9 := hP.sub (ws' := [(g, .inr (11, [.ref g0, .ref g1, .ref g2, .int 0, .ref g4, .ref g5, .ref g6, .ref g7, .ref g8, .ref g9, .ref g10, .ref g11, .ref g12])), (g1, .inr (10, [.int 0, .int 0, .int 0, .ref t3, .ref t4, .ref t5, .ref t6, .int 0, .int 0, .ref t9, .ref t10, .int 0, .ref t12, .ref t13, .ref t14, .ref t15, .int 0, .ref t17, .ref t18, .ref t19])), (t19, .inr (0, [.int 0, .ref e1, .ref e2, .ref e3])), (g0, .inr (9, [.int 0, .int 0, .int (-1), .ref a3, .ref a4, .int 0, .int 0, .int 0, .int 0])), (g4, .inr (8, [.ref w0, .ref w1, .ref w2, .int 0]))]) [0, 1, 2, 3, 4] rfl
    have hD9 := hD.sub (ws' := [(g, .inr (11, [.ref g0, .ref g1, .ref g2, .int 0, .ref g4, .ref g5, .ref g6, .ref g7, .ref g8, .ref g9, .ref g10, .ref g11, .ref g12])), (g1, .inr (10, [.int 0, .int 0, .int 0, .ref t3, .ref t4, .ref t5, .ref t6, .int 0, .int 0, .ref t9, .ref t10, .int 0, .ref t12, .ref t13, .ref t14, .ref t15, .int 0, .ref t17, .ref t18, .ref t19])), (t19, .inr (0, [.int 0, .ref e1, .ref e2, .ref e3])), (g0, .inr (9, [.int 0, .int 0, .int (-1), .ref a3, .ref a4, .int 0, .int 0, .int 0, .int 0])), (g4, .inr (8, [.ref w0, .ref w1, .ref w2, .int 0]))]) [0, 1, 2, 3, 4] (by decide) rfl
    exact W.iret (v := 0) hx hb hr (fun tZ ht hW => ⟨⟨0, (), rfl, (show 0 = sp_count p0 from by unfold sp_count; first | (rw [if_neg (by omega)]) | (rw [if_pos (by omega)])), by rw [ht]; exact hP9, va_K.moved hW.alike hK, hD9⟩, hS.F ht⟩) hS.2.2 dX11_count_59
  have zh_1 : ¬ p0.toInt = 0 := z_ne h_1
  by_cases h_2 : p0 = 1
  · skip
    refine lv_tableIn (off := 59) (tgt := 60) hx hb dX11_count_1 (by rw [h_2]; decide) (by rw [h_2]; decide) (by rw [h_2]; decide) (by decide) ?_
    have zh_2 : p0.toInt = 1 := z_eq h_2
    refine lv_aload_n hx hb dX11_count_60 rfl (lv_at hl 0 rfl) ?_
    refine va_get (D := D) (ci := 11) (v := .ref g1) (C := RX11) (T := TX11) (N := 13) hx hb hts iT_X11 hown hK hP 0 rfl rfl 1 (by decide) (hts _ tw_2_171) (fun _ h9 => h9) rfl dX11_count_61 ?_
    refine va_get (D := D) (ci := 10) (v := .int 0) (C := RX10) (T := TX10) (N := 20) hx hb hts iT_X10 hown hK hP 1 rfl rfl 2 (by decide) (hts _ tw_1_82) (fun _ h9 => h9) rfl dX11_count_64 ?_
    have hP9 := hP.sub (ws' := [(g, .inr (11, [.ref g0, .ref g1, .ref g2, .int 0, .ref g4, .ref g5, .ref g6, .ref g7, .ref g8, .ref g9, .ref g10, .ref g11, .ref g12])), (g1, .inr (10, [.int 0, .int 0, .int 0, .ref t3, .ref t4, .ref t5, .ref t6, .int 0, .int 0, .ref t9, .ref t10, .int 0, .ref t12, .ref t13, .ref t14, .ref t15, .int 0, .ref t17, .ref t18, .ref t19])), (t19, .inr (0, [.int 0, .ref e1, .ref e2, .ref e3])), (g0, .inr (9, [.int 0, .int 0, .int (-1), .ref a3, .ref a4, .int 0, .int 0, .int 0, .int 0])), (g4, .inr (8, [.ref w0, .ref w1, .ref w2, .int 0]))]) [0, 1, 2, 3, 4] rfl
    have hD9 := hD.sub (ws' := [(g, .inr (11, [.ref g0, .ref g1, .ref g2, .int 0, .ref g4, .ref g5, .ref g6, .ref g7, .ref g8, .ref g9, .ref g10, .ref g11, .ref g12])), (g1, .inr (10, [.int 0, .int 0, .int 0, .ref t3, .ref t4, .ref t5, .ref t6, .int 0, .int 0, .ref t9, .ref t10, .int 0, .ref t12, .ref t13, .ref t14, .ref t15, .int 0, .ref t17, .ref t18, .ref t19])), (t19, .inr (0, [.int 0, .ref e1, .ref e2, .ref e3])), (g0, .inr (9, [.int 0, .int 0, .int (-1), .ref a3, .ref a4, .int 0, .int 0, .int 0, .int 0])), (g4, .inr (8, [.ref w0, .ref w1, .ref w2, .int 0]))]) [0, 1, 2, 3, 4] (by decide) rfl
    exact W.iret (v := 0) hx hb hr (fun tZ ht hW => ⟨⟨0, (), rfl, (show 0 = sp_count p0 from by unfold sp_count; first | (rw [if_neg (by omega)]) | (rw [if_pos (by omega)])), by rw [ht]; exact hP9, va_K.moved hW.alike hK, hD9⟩, hS.F ht⟩) hS.2.2 dX11_count_67
  have zh_2 : ¬ p0.toInt = 1 := z_ne h_2
  by_cases h_3 : p0 = 2
  · skip
    refine lv_tableIn (off := 67) (tgt := 68) hx hb dX11_count_1 (by rw [h_3]; decide) (by rw [h_3]; decide) (by rw [h_3]; decide) (by decide) ?_
    have zh_3 : p0.toInt = 2 := z_eq h_3
    refine lv_aload_n hx hb dX11_count_68 rfl (lv_at hl 0 rfl) ?_
    refine va_get (D := D) (ci := 11) (v := .ref g1) (C := RX11) (T := TX11) (N := 13) hx hb hts iT_X11 hown hK hP 0 rfl rfl 1 (by decide) (hts _ tw_2_171) (fun _ h9 => h9) rfl dX11_count_69 ?_
    refine va_get (D := D) (ci := 10) (v := .int 0) (C := RX10) (T := TX10) (N := 20) hx hb hts iT_X10 hown hK hP 1 rfl rfl 8 (by decide) (hts _ tw_1_108) (fun _ h9 => h9) rfl dX11_count_72 ?_
    have hP9 := hP.sub (ws' := [(g, .inr (11, [.ref g0, .ref g1, .ref g2, .int 0, .ref g4, .ref g5, .ref g6, .ref g7, .ref g8, .ref g9, .ref g10, .ref g11, .ref g12])), (g1, .inr (10, [.int 0, .int 0, .int 0, .ref t3, .ref t4, .ref t5, .ref t6, .int 0, .int 0, .ref t9, .ref t10, .int 0, .ref t12, .ref t13, .ref t14, .ref t15, .int 0, .ref t17, .ref t18, .ref t19])), (t19, .inr (0, [.int 0, .ref e1, .ref e2, .ref e3])), (g0, .inr (9, [.int 0, .int 0, .int (-1), .ref a3, .ref a4, .int 0, .int 0, .int 0, .int 0])), (g4, .inr (8, [.ref w0, .ref w1, .ref w2, .int 0]))]) [0, 1, 2, 3, 4] rfl
    have hD9 := hD.sub (ws' := [(g, .inr (11, [.ref g0, .ref g1, .ref g2, .int 0, .ref g4, .ref g5, .ref g6, .ref g7, .ref g8, .ref g9, .ref g10, .ref g11, .ref g12])), (g1, .inr (10, [.int 0, .int 0, .int 0, .ref t3, .ref t4, .ref t5, .ref t6, .int 0, .int 0, .ref t9, .ref t10, .int 0, .ref t12, .ref t13, .ref t14, .ref t15, .int 0, .ref t17, .ref t18, .ref t19])), (t19, .inr (0, [.int 0, .ref e1, .ref e2, .ref e3])), (g0, .inr (9, [.int 0, .int 0, .int (-1), .ref a3, .ref a4, .int 0, .int 0, .int 0, .int 0])), (g4, .inr (8, [.ref w0, .ref w1, .ref w2, .int 0]))]) [0, 1, 2, 3, 4] (by decide) rfl
    exact W.iret (v := 0) hx hb hr (fun tZ ht hW => ⟨⟨0, (), rfl, (show 0 = sp_count p0 from by unfold sp_count; first | (rw [if_neg (by omega)]) | (rw [if_pos (by omega)])), by rw [ht]; exact hP9, va_K.moved hW.alike hK, hD9⟩, hS.F ht⟩) hS.2.2 dX11_count_75
  have zh_3 : ¬ p0.toInt = 2 := z_ne h_3
  by_cases h_4 : p0 = 3
  · skip
    refine lv_tableIn (off := 75) (tgt := 76) hx hb dX11_count_1 (by rw [h_4]; decide) (by rw [h_4]; decide) (by rw [h_4]; decide) (by decide) ?_
    have zh_4 : p0.toInt = 3 := z_eq h_4
    refine lv_aload_n hx hb dX11_count_76 rfl (lv_at hl 0 rfl) ?_
    refine va_get (D := D) (ci := 11) (v := .ref g1) (C := RX11) (T := TX11) (N := 13) hx hb hts iT_X11 hown hK hP 0 rfl rfl 1 (by decide) (hts _ tw_2_171) (fun _ h9 => h9) rfl dX11_count_77 ?_
    refine va_get (D := D) (ci := 10) (v := .int 0) (C := RX10) (T := TX10) (N := 20) hx hb hts iT_X10 hown hK hP 1 rfl rfl 11 (by decide) (hts _ tw_1_124) (fun _ h9 => h9) rfl dX11_count_80 ?_
    have hP9 := hP.sub (ws' := [(g, .inr (11, [.ref g0, .ref g1, .ref g2, .int 0, .ref g4, .ref g5, .ref g6, .ref g7, .ref g8, .ref g9, .ref g10, .ref g11, .ref g12])), (g1, .inr (10, [.int 0, .int 0, .int 0, .ref t3, .ref t4, .ref t5, .ref t6, .int 0, .int 0, .ref t9, .ref t10, .int 0, .ref t12, .ref t13, .ref t14, .ref t15, .int 0, .ref t17, .ref t18, .ref t19])), (t19, .inr (0, [.int 0, .ref e1, .ref e2, .ref e3])), (g0, .inr (9, [.int 0, .int 0, .int (-1), .ref a3, .ref a4, .int 0, .int 0, .int 0, .int 0])), (g4, .inr (8, [.ref w0, .ref w1, .ref w2, .int 0]))]) [0, 1, 2, 3, 4] rfl
    have hD9 := hD.sub (ws' := [(g, .inr (11, [.ref g0, .ref g1, .ref g2, .int 0, .ref g4, .ref g5, .ref g6, .ref g7, .ref g8, .ref g9, .ref g10, .ref g11, .ref g12])), (g1, .inr (10, [.int 0, .int 0, .int 0, .ref t3, .ref t4, .ref t5, .ref t6, .int 0, .int 0, .ref t9, .ref t10, .int 0, .ref t12, .ref t13, .ref t14, .ref t15, .int 0, .ref t17, .ref t18, .ref t19])), (t19, .inr (0, [.int 0, .ref e1, .ref e2, .ref e3])), (g0, .inr (9, [.int 0, .int 0, .int (-1), .ref a3, .ref a4, .int 0, .int 0, .int 0, .int 0])), (g4, .inr (8, [.ref w0, .ref w1, .ref w2, .int 0]))]) [0, 1, 2, 3, 4] (by decide) rfl
    exact W.iret (v := 0) hx hb hr (fun tZ ht hW => ⟨⟨0, (), rfl, (show 0 = sp_count p0 from by unfold sp_count; first | (rw [if_neg (by omega)]) | (rw [if_pos (by omega)])), by rw [ht]; exact hP9, va_K.moved hW.alike hK, hD9⟩, hS.F ht⟩) hS.2.2 dX11_count_83
  have zh_4 : ¬ p0.toInt = 3 := z_ne h_4
  by_cases h_5 : p0 = 4
  · skip
    refine lv_tableIn (off := 83) (tgt := 84) hx hb dX11_count_1 (by rw [h_5]; decide) (by rw [h_5]; decide) (by rw [h_5]; decide) (by decide) ?_
    have zh_5 : p0.toInt = 4 := z_eq h_5
    refine lv_aload_n hx hb dX11_count_84 rfl (lv_at hl 0 rfl) ?_
    refine va_get (D := D) (ci := 11) (v := .ref g1) (C := RX11) (T := TX11) (N := 13) hx hb hts iT_X11 hown hK hP 0 rfl rfl 1 (by decide) (hts _ tw_2_171) (fun _ h9 => h9) rfl dX11_count_85 ?_
    refine va_get (D := D) (ci := 10) (v := .int 0) (C := RX10) (T := TX10) (N := 20) hx hb hts iT_X10 hown hK hP 1 rfl rfl 16 (by decide) (hts _ tw_1_145) (fun _ h9 => h9) rfl dX11_count_88 ?_
    have hP9 := hP.sub (ws' := [(g, .inr (11, [.ref g0, .ref g1, .ref g2, .int 0, .ref g4, .ref g5, .ref g6, .ref g7, .ref g8, .ref g9, .ref g10, .ref g11, .ref g12])), (g1, .inr (10, [.int 0, .int 0, .int 0, .ref t3, .ref t4, .ref t5, .ref t6, .int 0, .int 0, .ref t9, .ref t10, .int 0, .ref t12, .ref t13, .ref t14, .ref t15, .int 0, .ref t17, .ref t18, .ref t19])), (t19, .inr (0, [.int 0, .ref e1, .ref e2, .ref e3])), (g0, .inr (9, [.int 0, .int 0, .int (-1), .ref a3, .ref a4, .int 0, .int 0, .int 0, .int 0])), (g4, .inr (8, [.ref w0, .ref w1, .ref w2, .int 0]))]) [0, 1, 2, 3, 4] rfl
    have hD9 := hD.sub (ws' := [(g, .inr (11, [.ref g0, .ref g1, .ref g2, .int 0, .ref g4, .ref g5, .ref g6, .ref g7, .ref g8, .ref g9, .ref g10, .ref g11, .ref g12])), (g1, .inr (10, [.int 0, .int 0, .int 0, .ref t3, .ref t4, .ref t5, .ref t6, .int 0, .int 0, .ref t9, .ref t10, .int 0, .ref t12, .ref t13, .ref t14, .ref t15, .int 0, .ref t17, .ref t18, .ref t19])), (t19, .inr (0, [.int 0, .ref e1, .ref e2, .ref e3])), (g0, .inr (9, [.int 0, .int 0, .int (-1), .ref a3, .ref a4, .int 0, .int 0, .int 0, .int 0])), (g4, .inr (8, [.ref w0, .ref w1, .ref w2, .int 0]))]) [0, 1, 2, 3, 4] (by decide) rfl
    exact W.iret (v := 0) hx hb hr (fun tZ ht hW => ⟨⟨0, (), rfl, (show 0 = sp_count p0 from by unfold sp_count; first | (rw [if_neg (by omega)]) | (rw [if_pos (by omega)])), by rw [ht]; exact hP9, va_K.moved hW.alike hK, hD9⟩, hS.F ht⟩) hS.2.2 dX11_count_91
  have zh_5 : ¬ p0.toInt = 4 := z_ne h_5
  by_cases h_6 : p0 = 5
  · skip
    refine lv_tableIn (off := 91) (tgt := 92) hx hb dX11_count_1 (by rw [h_6]; decide) (by rw [h_6]; decide) (by rw [h_6]; decide) (by decide) ?_
    have zh_6 : p0.toInt = 5 := z_eq h_6
    refine lv_aload_n hx hb dX11_count_92 rfl (lv_at hl 0 rfl) ?_
    refine va_get (D := D) (ci := 11) (v := .ref g1) (C := RX11) (T := TX11) (N := 13) hx hb hts iT_X11 hown hK hP 0 rfl rfl 1 (by decide) (hts _ tw_2_171) (fun _ h9 => h9) rfl dX11_count_93 ?_
    refine va_get (D := D) (ci := 10) (v := .ref t19) (C := RX10) (T := TX10) (N := 20) hx hb hts iT_X10 hown hK hP 1 rfl rfl 19 (by decide) (hts _ tw_1_153) (fun _ h9 => h9) rfl dX11_count_96 ?_
    refine va_get (D := D) (ci := 0) (v := .int 0) (C := RX0) (T := TX0) (N := 4) hx hb hts iT_X0 hown hK hP 2 rfl rfl 0 (by decide) (hts _ tw_1_50) (fun _ h9 => h9) rfl dX11_count_99 ?_
    have hP9 := hP.sub (ws' := [(g, .inr (11, [.ref g0, .ref g1, .ref g2, .int 0, .ref g4, .ref g5, .ref g6, .ref g7, .ref g8, .ref g9, .ref g10, .ref g11, .ref g12])), (g1, .inr (10, [.int 0, .int 0, .int 0, .ref t3, .ref t4, .ref t5, .ref t6, .int 0, .int 0, .ref t9, .ref t10, .int 0, .ref t12, .ref t13, .ref t14, .ref t15, .int 0, .ref t17, .ref t18, .ref t19])), (t19, .inr (0, [.int 0, .ref e1, .ref e2, .ref e3])), (g0, .inr (9, [.int 0, .int 0, .int (-1), .ref a3, .ref a4, .int 0, .int 0, .int 0, .int 0])), (g4, .inr (8, [.ref w0, .ref w1, .ref w2, .int 0]))]) [0, 1, 2, 3, 4] rfl
    have hD9 := hD.sub (ws' := [(g, .inr (11, [.ref g0, .ref g1, .ref g2, .int 0, .ref g4, .ref g5, .ref g6, .ref g7, .ref g8, .ref g9, .ref g10, .ref g11, .ref g12])), (g1, .inr (10, [.int 0, .int 0, .int 0, .ref t3, .ref t4, .ref t5, .ref t6, .int 0, .int 0, .ref t9, .ref t10, .int 0, .ref t12, .ref t13, .ref t14, .ref t15, .int 0, .ref t17, .ref t18, .ref t19])), (t19, .inr (0, [.int 0, .ref e1, .ref e2, .ref e3])), (g0, .inr (9, [.int 0, .int 0, .int (-1), .ref a3, .ref a4, .int 0, .int 0, .int 0, .int 0])), (g4, .inr (8, [.ref w0, .ref w1, .ref w2, .int 0]))]) [0, 1, 2, 3, 4] (by decide) rfl
    exact W.iret (v := 0) hx hb hr (fun tZ ht hW => ⟨⟨0, (), rfl, (show 0 = sp_count p0 from by unfold sp_count; first | (rw [if_neg (by omega)]) | (rw [if_pos (by omega)])), by rw [ht]; exact hP9, va_K.moved hW.alike hK, hD9⟩, hS.F ht⟩) hS.2.2 dX11_count_102
  have zh_6 : ¬ p0.toInt = 5 := z_ne h_6
  by_cases h_7 : p0 = 6
  · skip
    refine lv_tableIn (off := 102) (tgt := 103) hx hb dX11_count_1 (by rw [h_7]; decide) (by rw [h_7]; decide) (by rw [h_7]; decide) (by decide) ?_
    have zh_7 : p0.toInt = 6 := z_eq h_7
    refine lv_aload_n hx hb dX11_count_103 rfl (lv_at hl 0 rfl) ?_
    refine va_get (D := D) (ci := 11) (v := .ref g1) (C := RX11) (T := TX11) (N := 13) hx hb hts iT_X11 hown hK hP 0 rfl rfl 1 (by decide) (hts _ tw_2_171) (fun _ h9 => h9) rfl dX11_count_104 ?_
    refine va_get (D := D) (ci := 10) (v := .int 0) (C := RX10) (T := TX10) (N := 20) hx hb hts iT_X10 hown hK hP 1 rfl rfl 1 (by decide) (hts _ tw_1_75) (fun _ h9 => h9) rfl dX11_count_107 ?_
    have hP9 := hP.sub (ws' := [(g, .inr (11, [.ref g0, .ref g1, .ref g2, .int 0, .ref g4, .ref g5, .ref g6, .ref g7, .ref g8, .ref g9, .ref g10, .ref g11, .ref g12])), (g1, .inr (10, [.int 0, .int 0, .int 0, .ref t3, .ref t4, .ref t5, .ref t6, .int 0, .int 0, .ref t9, .ref t10, .int 0, .ref t12, .ref t13, .ref t14, .ref t15, .int 0, .ref t17, .ref t18, .ref t19])), (t19, .inr (0, [.int 0, .ref e1, .ref e2, .ref e3])), (g0, .inr (9, [.int 0, .int 0, .int (-1), .ref a3, .ref a4, .int 0, .int 0, .int 0, .int 0])), (g4, .inr (8, [.ref w0, .ref w1, .ref w2, .int 0]))]) [0, 1, 2, 3, 4] rfl
    have hD9 := hD.sub (ws' := [(g, .inr (11, [.ref g0, .ref g1, .ref g2, .int 0, .ref g4, .ref g5, .ref g6, .ref g7, .ref g8, .ref g9, .ref g10, .ref g11, .ref g12])), (g1, .inr (10, [.int 0, .int 0, .int 0, .ref t3, .ref t4, .ref t5, .ref t6, .int 0, .int 0, .ref t9, .ref t10, .int 0, .ref t12, .ref t13, .ref t14, .ref t15, .int 0, .ref t17, .ref t18, .ref t19])), (t19, .inr (0, [.int 0, .ref e1, .ref e2, .ref e3])), (g0, .inr (9, [.int 0, .int 0, .int (-1), .ref a3, .ref a4, .int 0, .int 0, .int 0, .int 0])), (g4, .inr (8, [.ref w0, .ref w1, .ref w2, .int 0]))]) [0, 1, 2, 3, 4] (by decide) rfl
    exact W.iret (v := 0) hx hb hr (fun tZ ht hW => ⟨⟨0, (), rfl, (show 0 = sp_count p0 from by unfold sp_count; first | (rw [if_neg (by omega)]) | (rw [if_pos (by omega)])), by rw [ht]; exact hP9, va_K.moved hW.alike hK, hD9⟩, hS.F ht⟩) hS.2.2 dX11_count_110
  have zh_7 : ¬ p0.toInt = 6 := z_ne h_7
  by_cases h_8 : p0 = 7
  · skip
    refine lv_tableIn (off := 110) (tgt := 111) hx hb dX11_count_1 (by rw [h_8]; decide) (by rw [h_8]; decide) (by rw [h_8]; decide) (by decide) ?_
    have zh_8 : p0.toInt = 7 := z_eq h_8
    refine lv_aload_n hx hb dX11_count_111 rfl (lv_at hl 0 rfl) ?_
    refine va_get (D := D) (ci := 11) (v := .ref g0) (C := RX11) (T := TX11) (N := 13) hx hb hts iT_X11 hown hK hP 0 rfl rfl 0 (by decide) (hts _ tw_2_170) (fun _ h9 => h9) rfl dX11_count_112 ?_
    refine va_get (D := D) (ci := 9) (v := .int 0) (C := RX9) (T := TX9) (N := 9) hx hb hts iT_X9 hown hK hP 3 rfl rfl 0 (by decide) (hts _ tw_1_196) (fun _ h9 => h9) rfl dX11_count_115 ?_
    have hP9 := hP.sub (ws' := [(g, .inr (11, [.ref g0, .ref g1, .ref g2, .int 0, .ref g4, .ref g5, .ref g6, .ref g7, .ref g8, .ref g9, .ref g10, .ref g11, .ref g12])), (g1, .inr (10, [.int 0, .int 0, .int 0, .ref t3, .ref t4, .ref t5, .ref t6, .int 0, .int 0, .ref t9, .ref t10, .int 0, .ref t12, .ref t13, .ref t14, .ref t15, .int 0, .ref t17, .ref t18, .ref t19])), (t19, .inr (0, [.int 0, .ref e1, .ref e2, .ref e3])), (g0, .inr (9, [.int 0, .int 0, .int (-1), .ref a3, .ref a4, .int 0, .int 0, .int 0, .int 0])), (g4, .inr (8, [.ref w0, .ref w1, .ref w2, .int 0]))]) [0, 1, 2, 3, 4] rfl
    have hD9 := hD.sub (ws' := [(g, .inr (11, [.ref g0, .ref g1, .ref g2, .int 0, .ref g4, .ref g5, .ref g6, .ref g7, .ref g8, .ref g9, .ref g10, .ref g11, .ref g12])), (g1, .inr (10, [.int 0, .int 0, .int 0, .ref t3, .ref t4, .ref t5, .ref t6, .int 0, .int 0, .ref t9, .ref t10, .int 0, .ref t12, .ref t13, .ref t14, .ref t15, .int 0, .ref t17, .ref t18, .ref t19])), (t19, .inr (0, [.int 0, .ref e1, .ref e2, .ref e3])), (g0, .inr (9, [.int 0, .int 0, .int (-1), .ref a3, .ref a4, .int 0, .int 0, .int 0, .int 0])), (g4, .inr (8, [.ref w0, .ref w1, .ref w2, .int 0]))]) [0, 1, 2, 3, 4] (by decide) rfl
    exact W.iret (v := 0) hx hb hr (fun tZ ht hW => ⟨⟨0, (), rfl, (show 0 = sp_count p0 from by unfold sp_count; first | (rw [if_neg (by omega)]) | (rw [if_pos (by omega)])), by rw [ht]; exact hP9, va_K.moved hW.alike hK, hD9⟩, hS.F ht⟩) hS.2.2 dX11_count_118
  have zh_8 : ¬ p0.toInt = 7 := z_ne h_8
  by_cases h_9 : p0 = 8
  · skip
    refine lv_tableIn (off := 118) (tgt := 119) hx hb dX11_count_1 (by rw [h_9]; decide) (by rw [h_9]; decide) (by rw [h_9]; decide) (by decide) ?_
    have zh_9 : p0.toInt = 8 := z_eq h_9
    refine lv_aload_n hx hb dX11_count_119 rfl (lv_at hl 0 rfl) ?_
    refine va_get (D := D) (ci := 11) (v := .ref g4) (C := RX11) (T := TX11) (N := 13) hx hb hts iT_X11 hown hK hP 0 rfl rfl 4 (by decide) (hts _ tw_2_174) (fun _ h9 => h9) rfl dX11_count_120 ?_
    have hPc := hP.sub (ws' := [(g4, .inr (8, [.ref w0, .ref w1, .ref w2, .int 0]))]) [4] rfl
    have hDc := hD.sub (ws' := [(g4, .inr (8, [.ref w0, .ref w1, .ref w2, .int 0]))]) [4] (by decide) rfl
    have hFc := va_free (wc := [(g4, .inr (8, [.ref w0, .ref w1, .ref w2, .int 0]))]) hD hS hA [4] rfl
    refine va_calli (va_runV (C := RX8) (As := []) (rest := []) ⟨hx, hb, hml, hown, hts⟩ (c_X8_standing l D k g4 w0 w1 w2 s.heap.size) (cwV 0 hts (gV tw_5_229 tw_5_230 tw_5_231 tw_1_5 tw_5_232) rfl rfl rfl hdV_X8_standing ⟨Nat.le_of_ble_eq_true rfl, Nat.le_of_ble_eq_true rfl⟩) (cz_V hK hPc hDc hN (ci := 8) (q0 := 0) rfl rfl []) rfl rfl hl.1 rfl (lv_room (Nat.le_of_ble_eq_true rfl)) dX11_count_123 ⟨Nat.le_of_ble_eq_true rfl, Nat.le_of_ble_eq_true rfl⟩) hS (fun q _ h => hFc q h) hFc (fun r_10 uZ tZ H1 locs ht hvm hw hB hz1 hk1 hS => ?_)
    obtain ⟨hP1, hK1, hD1⟩ := hB
    rw [ht] at hP1
    obtain ⟨hP, hD⟩ := va_join (wr := [(g, .inr (11, [.ref g0, .ref g1, .ref g2, .int 0, .ref g4, .ref g5, .ref g6, .ref g7, .ref g8, .ref g9, .ref g10, .ref g11, .ref g12])), (g1, .inr (10, [.int 0, .int 0, .int 0, .ref t3, .ref t4, .ref t5, .ref t6, .int 0, .int 0, .ref t9, .ref t10, .int 0, .ref t12, .ref t13, .ref t14, .ref t15, .int 0, .ref t17, .ref t18, .ref t19])), (t19, .inr (0, [.int 0, .ref e1, .ref e2, .ref e3])), (g0, .inr (9, [.int 0, .int 0, .int (-1), .ref a3, .ref a4, .int 0, .int 0, .int 0, .int 0]))]) (w1 := [(g4, .inr (8, [.ref w0, .ref w1, .ref w2, .int 0]))]) hP hD [4] [0, 1, 2, 3] rfl rfl (by decide) (by decide) hk1 hFc hP1 hD1
    clear hK1 hP1 hD1 hPc hDc hFc
    clear hk1 hz1 ht hvm
    have hP : va_P D vwCl [(g, .inr (11, [.ref g0, .ref g1, .ref g2, .int 0, .ref g4, .ref g5, .ref g6, .ref g7, .ref g8, .ref g9, .ref g10, .ref g11, .ref g12])), (g1, .inr (10, [.int 0, .int 0, .int 0, .ref t3, .ref t4, .ref t5, .ref t6, .int 0, .int 0, .ref t9, .ref t10, .int 0, .ref t12, .ref t13, .ref t14, .ref t15, .int 0, .ref t17, .ref t18, .ref t19])), (t19, .inr (0, [.int 0, .ref e1, .ref e2, .ref e3])), (g0, .inr (9, [.int 0, .int 0, .int (-1), .ref a3, .ref a4, .int 0, .int 0, .int 0, .int 0])), (g4, .inr (8, [.ref w0, .ref w1, .ref w2, .int 0]))] H1 := hP
    have hD : va_D A [(g, .inr (11, [.ref g0, .ref g1, .ref g2, .int 0, .ref g4, .ref g5, .ref g6, .ref g7, .ref g8, .ref g9, .ref g10, .ref g11, .ref g12])), (g1, .inr (10, [.int 0, .int 0, .int 0, .ref t3, .ref t4, .ref t5, .ref t6, .int 0, .int 0, .ref t9, .ref t10, .int 0, .ref t12, .ref t13, .ref t14, .ref t15, .int 0, .ref t17, .ref t18, .ref t19])), (t19, .inr (0, [.int 0, .ref e1, .ref e2, .ref e3])), (g0, .inr (9, [.int 0, .int 0, .int (-1), .ref a3, .ref a4, .int 0, .int 0, .int 0, .int 0])), (g4, .inr (8, [.ref w0, .ref w1, .ref w2, .int 0]))] := hD
    generalize H1 = H at hP hS ⊢
    obtain rfl : r_10 = 0 := hw
    have hP9 := hP.sub (ws' := [(g, .inr (11, [.ref g0, .ref g1, .ref g2, .int 0, .ref g4, .ref g5, .ref g6, .ref g7, .ref g8, .ref g9, .ref g10, .ref g11, .ref g12])), (g1, .inr (10, [.int 0, .int 0, .int 0, .ref t3, .ref t4, .ref t5, .ref t6, .int 0, .int 0, .ref t9, .ref t10, .int 0, .ref t12, .ref t13, .ref t14, .ref t15, .int 0, .ref t17, .ref t18, .ref t19])), (t19, .inr (0, [.int 0, .ref e1, .ref e2, .ref e3])), (g0, .inr (9, [.int 0, .int 0, .int (-1), .ref a3, .ref a4, .int 0, .int 0, .int 0, .int 0])), (g4, .inr (8, [.ref w0, .ref w1, .ref w2, .int 0]))]) [0, 1, 2, 3, 4] rfl
    have hD9 := hD.sub (ws' := [(g, .inr (11, [.ref g0, .ref g1, .ref g2, .int 0, .ref g4, .ref g5, .ref g6, .ref g7, .ref g8, .ref g9, .ref g10, .ref g11, .ref g12])), (g1, .inr (10, [.int 0, .int 0, .int 0, .ref t3, .ref t4, .ref t5, .ref t6, .int 0, .int 0, .ref t9, .ref t10, .int 0, .ref t12, .ref t13, .ref t14, .ref t15, .int 0, .ref t17, .ref t18, .ref t19])), (t19, .inr (0, [.int 0, .ref e1, .ref e2, .ref e3])), (g0, .inr (9, [.int 0, .int 0, .int (-1), .ref a3, .ref a4, .int 0, .int 0, .int 0, .int 0])), (g4, .inr (8, [.ref w0, .ref w1, .ref w2, .int 0]))]) [0, 1, 2, 3, 4] (by decide) rfl
    exact W.iret (v := 0) hx hb hr (fun tZ ht hW => ⟨⟨0, (), rfl, (show 0 = sp_count p0 from by unfold sp_count; first | (rw [if_neg (by omega)]) | (rw [if_pos (by omega)])), by rw [ht]; exact hP9, va_K.moved hW.alike hK, hD9⟩, hS.F ht⟩) hS.2.2 dX11_count_126
  have zh_9 : ¬ p0.toInt = 8 := z_ne h_9
  refine lv_tableOut (tgt := 127) hx hb dX11_count_1 (by omega) (by decide) ?_
  refine lv_iconst (v := (-1)) hx hb dX11_count_127 (by decide) ?_
  have hP9 := hP.sub (ws' := [(g, .inr (11, [.ref g0, .ref g1, .ref g2, .int 0, .ref g4, .ref g5, .ref g6, .ref g7, .ref g8, .ref g9, .ref g10, .ref g11, .ref g12])), (g1, .inr (10, [.int 0, .int 0, .int 0, .ref t3, .ref t4, .ref t5, .ref t6, .int 0, .int 0, .ref t9, .ref t10, .int 0, .ref t12, .ref t13, .ref t14, .ref t15, .int 0, .ref t17, .ref t18, .ref t19])), (t19, .inr (0, [.int 0, .ref e1, .ref e2, .ref e3])), (g0, .inr (9, [.int 0, .int 0, .int (-1), .ref a3, .ref a4, .int 0, .int 0, .int 0, .int 0])), (g4, .inr (8, [.ref w0, .ref w1, .ref w2, .int 0]))]) [0, 1, 2, 3, 4] rfl
  have hD9 := hD.sub (ws' := [(g, .inr (11, [.ref g0, .ref g1, .ref g2, .int 0, .ref g4, .ref g5, .ref g6, .ref g7, .ref g8, .ref g9, .ref g10, .ref g11, .ref g12])), (g1, .inr (10, [.int 0, .int 0, .int 0, .ref t3, .ref t4, .ref t5, .ref t6, .int 0, .int 0, .ref t9, .ref t10, .int 0, .ref t12, .ref t13, .ref t14, .ref t15, .int 0, .ref t17, .ref t18, .ref t19])), (t19, .inr (0, [.int 0, .ref e1, .ref e2, .ref e3])), (g0, .inr (9, [.int 0, .int 0, .int (-1), .ref a3, .ref a4, .int 0, .int 0, .int 0, .int 0])), (g4, .inr (8, [.ref w0, .ref w1, .ref w2, .int 0]))]) [0, 1, 2, 3, 4] (by decide) rfl
  exact W.iret (v := (-1)) hx hb hr (fun tZ ht hW => ⟨⟨(-1), (), rfl, (show (-1) = sp_count p0 from by unfold sp_count; first | (rw [if_neg (by omega)]) | (rw [if_pos (by omega)])), by rw [ht]; exact hP9, va_K.moved hW.alike hK, hD9⟩, hS.F ht⟩) hS.2.2 dX11_count_128
set_option maxHeartbeats 4000000 in
set_option maxRecDepth 100000 in
theorem c_X0_become (l : Launch) (D : va_G) (k : Nat → ClassId) (x : Nat) (x1 : Nat) (x2 : Nat) (x3 : Nat) (y : Nat) (y1 : Nat) (y2 : Nat) (y3 : Nat) (fx1 : Nat → Int32) (fx2 : Nat → Int32) (fx3 : Nat → Int32) (fy1 : Nat → Int32) (fy2 : Nat → Int32) (fy3 : Nat → Int32) (sz : Nat) : Met l yX0_become (ww yX0_become cX0_become 2 none) ({ frames := 1, cells := 0, slots := 0, locals := 60 }) (Pre0 D k [(x, .inr (0, [.int 0, .ref x1, .ref x2, .ref x3])), (x1, .inl (k 0, 40, .inl fx1)), (x2, .inl (k 0, 40, .inl fx2)), (x3, .inl (k 0, 40, .inl fx3)), (y, .inr (0, [.int 0, .ref y1, .ref y2, .ref y3])), (y1, .inl (k 0, 40, .inl fy1)), (y2, .inl (k 0, 40, .inl fy2)), (y3, .inl (k 0, 40, .inl fy3))] sz [.ref x, .ref y]) (va_Qv (fun (_ : Unit) => True) (fun (_ : Unit) tZ => Bw D k (va_A [(x, .inr (0, [.int 0, .ref x1, .ref x2, .ref x3])), (x1, .inl (k 0, 40, .inl fx1)), (x2, .inl (k 0, 40, .inl fx2)), (x3, .inl (k 0, 40, .inl fx3)), (y, .inr (0, [.int 0, .ref y1, .ref y2, .ref y3])), (y1, .inl (k 0, 40, .inl fy1)), (y2, .inl (k 0, 40, .inl fy2)), (y3, .inl (k 0, 40, .inl fy3))] sz) [] tZ) (va_A [(x, .inr (0, [.int 0, .ref x1, .ref x2, .ref x3])), (x1, .inl (k 0, 40, .inl fx1)), (x2, .inl (k 0, 40, .inl fx2)), (x3, .inl (k 0, 40, .inl fx3)), (y, .inr (0, [.int 0, .ref y1, .ref y2, .ref y3])), (y1, .inl (k 0, 40, .inl fy1)), (y2, .inl (k 0, 40, .inl fy2)), (y3, .inl (k 0, 40, .inl fy3))] sz)) 0 0 (va_A [(x, .inr (0, [.int 0, .ref x1, .ref x2, .ref x3])), (x1, .inl (k 0, 40, .inl fx1)), (x2, .inl (k 0, 40, .inl fx2)), (x3, .inl (k 0, 40, .inl fx3)), (y, .inr (0, [.int 0, .ref y1, .ref y2, .ref y3])), (y1, .inl (k 0, 40, .inl fy1)), (y2, .inl (k 0, 40, .inl fy2)), (y3, .inl (k 0, 40, .inl fy3))] sz) := by
  refine Met.ofW (cc := cX0_become) (maxL := 2) (ret := none) (by decide +kernel) rfl ?_
  intro p e s m args below meth c s₁ B hml hv
  obtain ⟨rfl, hsz, hP, hK, hD0, hN⟩ := hv
  have hx := B.exec
  have hb := B.bytes
  have hr := B.returns
  have hts : ∀ w ∈ TT, w.before _ s = true := fun w h => atoms_spec (ws := ww yX0_become cX0_become 2 none) B.pre w (List.mem_cons_of_mem _ h)
  have hown : s.vm.findClass RX0 = some m.cls := findClass_of_methodNamed B.named
  have hlocks := B.notSynchronized
  subst hsz
  have hD := hD0.self (sz := s.heap.size)
  generalize hAe : va_A [(x, .inr (0, [.int 0, .ref x1, .ref x2, .ref x3])), (x1, .inl (k 0, 40, .inl fx1)), (x2, .inl (k 0, 40, .inl fx2)), (x3, .inl (k 0, 40, .inl fx3)), (y, .inr (0, [.int 0, .ref y1, .ref y2, .ref y3])), (y1, .inl (k 0, 40, .inl fy1)), (y2, .inl (k 0, 40, .inl fy2)), (y3, .inl (k 0, 40, .inl fy3))] s.heap.size = A at hD ⊢
  have hA : ∀ q : Nat, s.heap.size ≤ q → A q := fun q h => by rw [← hAe]; exact Or.inr h
  have hS : va_S A s.heap s.heap [] := va_S.rf
  have hl := lv_entry ([.ref x, .ref y]) (n := 2) (Nat.le_of_ble_eq_true rfl)
  rw [lg_entry_eq]
  generalize (lg_sl ([.ref x, .ref y]) ++ List.replicate (2 - (lg_sl ([.ref x, .ref y])).length) Slot.unset).toArray = ls at hl ⊢
  have hl : lv_has ls 2 [(0, .ref x), (1, .ref y)] := hl
  refine lv_aload_n hx hb dX0_become_0 rfl (lv_at hl 0 rfl) ?_
  refine lv_aload_n hx hb dX0_become_1 rfl (lv_at hl 1 rfl) ?_
  refine va_get (D := D) (ci := 0) (v := .int 0) (C := RX0) (T := TX0) (N := 4) hx hb hts iT_X0 hown hK hP 4 rfl rfl 0 (by decide) (hts _ tw_1_48) (fun _ h9 => h9) rfl dX0_become_2 ?_
  refine va_put (D := D) (ci := 0) (v := .int 0) (ty := tyX0 0) (C := RX0) (T := TX0) (N := 4) hx hb hts iT_X0 tyX0 tyX0_ok nmX0 hown hK hP hD hS 0 rfl rfl 0 (by decide) (hts _ tw_1_48) (fun _ h9 => h9) rfl (tyX0_ok 0 (by decide)) rfl rfl (Nat.le_of_ble_eq_true rfl) dX0_become_5 (fun H locs hP hD hS => ?_)
  have hP : va_P D vwCl [(x, .inr (0, [.int 0, .ref x1, .ref x2, .ref x3])), (x1, .inl (k 0, 40, .inl fx1)), (x2, .inl (k 0, 40, .inl fx2)), (x3, .inl (k 0, 40, .inl fx3)), (y, .inr (0, [.int 0, .ref y1, .ref y2, .ref y3])), (y1, .inl (k 0, 40, .inl fy1)), (y2, .inl (k 0, 40, .inl fy2)), (y3, .inl (k 0, 40, .inl fy3))] H := hP
  have hD : va_D A [(x, .inr (0, [.int 0, .ref x1, .ref x2, .ref x3])), (x1, .inl (k 0, 40, .inl fx1)), (x2, .inl (k 0, 40, .inl fx2)), (x3, .inl (k 0, 40, .inl fx3)), (y, .inr (0, [.int 0, .ref y1, .ref y2, .ref y3])), (y1, .inl (k 0, 40, .inl fy1)), (y2, .inl (k 0, 40, .inl fy2)), (y3, .inl (k 0, 40, .inl fy3))] := hD
  refine lv_aload_n hx hb dX0_become_8 rfl (lv_at hl 1 rfl) ?_
  refine va_get (D := D) (ci := 0) (v := .ref y1) (C := RX0) (T := TX0) (N := 4) hx hb hts iT_X0 hown hK hP 4 rfl rfl 1 (by decide) (hts _ tw_1_51) (fun _ h9 => h9) rfl dX0_become_9 ?_
  refine lv_iconst (v := 0) hx hb dX0_become_12 (by decide) ?_
  refine lv_aload_n hx hb dX0_become_13 rfl (lv_at hl 0 rfl) ?_
  refine va_get (D := D) (ci := 0) (v := .ref x1) (C := RX0) (T := TX0) (N := 4) hx hb hts iT_X0 hown hK hP 0 rfl rfl 1 (by decide) (hts _ tw_1_51) (fun _ h9 => h9) rfl dX0_become_14 ?_
  refine lv_iconst (v := 0) hx hb dX0_become_17 (by decide) ?_
  refine lv_bipush (v := 40) hx hb dX0_become_18 (by decide) ?_
  refine va_copyi (ty := .int) hx hb (by rw [hml]; exact hl.1.symm) hown (hts _ tw_6_7) (hts _ tw_4_178) (hts _ tw_4_177) (hts _ tw_1_21) hK hP hD hS 5 1 0 0 rfl rfl rfl rfl rfl (by decide) (by decide) (by decide) (by decide) (by decide) (fun _ _ => rfl) (Nat.le_of_ble_eq_true rfl) (Nat.le_of_ble_eq_true rfl) dX0_become_20 (fun H locs hP hD hS => ?_)
  have hP : va_P D vwCl [(x, .inr (0, [.int 0, .ref x1, .ref x2, .ref x3])), (x1, .inl (k 0, 40, .inl (va_cpy fy1 fx1 0 0 40))), (x2, .inl (k 0, 40, .inl fx2)), (x3, .inl (k 0, 40, .inl fx3)), (y, .inr (0, [.int 0, .ref y1, .ref y2, .ref y3])), (y1, .inl (k 0, 40, .inl fy1)), (y2, .inl (k 0, 40, .inl fy2)), (y3, .inl (k 0, 40, .inl fy3))] H := hP
  have hD : va_D A [(x, .inr (0, [.int 0, .ref x1, .ref x2, .ref x3])), (x1, .inl (k 0, 40, .inl (va_cpy fy1 fx1 0 0 40))), (x2, .inl (k 0, 40, .inl fx2)), (x3, .inl (k 0, 40, .inl fx3)), (y, .inr (0, [.int 0, .ref y1, .ref y2, .ref y3])), (y1, .inl (k 0, 40, .inl fy1)), (y2, .inl (k 0, 40, .inl fy2)), (y3, .inl (k 0, 40, .inl fy3))] := hD
  refine lv_aload_n hx hb dX0_become_23 rfl (lv_at hl 1 rfl) ?_
  refine va_get (D := D) (ci := 0) (v := .ref y2) (C := RX0) (T := TX0) (N := 4) hx hb hts iT_X0 hown hK hP 4 rfl rfl 2 (by decide) (hts _ tw_1_53) (fun _ h9 => h9) rfl dX0_become_24 ?_
  refine lv_iconst (v := 0) hx hb dX0_become_27 (by decide) ?_
  refine lv_aload_n hx hb dX0_become_28 rfl (lv_at hl 0 rfl) ?_
  refine va_get (D := D) (ci := 0) (v := .ref x2) (C := RX0) (T := TX0) (N := 4) hx hb hts iT_X0 hown hK hP 0 rfl rfl 2 (by decide) (hts _ tw_1_53) (fun _ h9 => h9) rfl dX0_become_29 ?_
  refine lv_iconst (v := 0) hx hb dX0_become_32 (by decide) ?_
  refine lv_bipush (v := 40) hx hb dX0_become_33 (by decide) ?_
  refine va_copyi (ty := .int) hx hb (by rw [hml]; exact hl.1.symm) hown (hts _ tw_6_7) (hts _ tw_4_178) (hts _ tw_4_177) (hts _ tw_1_21) hK hP hD hS 6 2 0 0 rfl rfl rfl rfl rfl (by decide) (by decide) (by decide) (by decide) (by decide) (fun _ _ => rfl) (Nat.le_of_ble_eq_true rfl) (Nat.le_of_ble_eq_true rfl) dX0_become_35 (fun H locs hP hD hS => ?_)
  have hP : va_P D vwCl [(x, .inr (0, [.int 0, .ref x1, .ref x2, .ref x3])), (x1, .inl (k 0, 40, .inl (va_cpy fy1 fx1 0 0 40))), (x2, .inl (k 0, 40, .inl (va_cpy fy2 fx2 0 0 40))), (x3, .inl (k 0, 40, .inl fx3)), (y, .inr (0, [.int 0, .ref y1, .ref y2, .ref y3])), (y1, .inl (k 0, 40, .inl fy1)), (y2, .inl (k 0, 40, .inl fy2)), (y3, .inl (k 0, 40, .inl fy3))] H := hP
  have hD : va_D A [(x, .inr (0, [.int 0, .ref x1, .ref x2, .ref x3])), (x1, .inl (k 0, 40, .inl (va_cpy fy1 fx1 0 0 40))), (x2, .inl (k 0, 40, .inl (va_cpy fy2 fx2 0 0 40))), (x3, .inl (k 0, 40, .inl fx3)), (y, .inr (0, [.int 0, .ref y1, .ref y2, .ref y3])), (y1, .inl (k 0, 40, .inl fy1)), (y2, .inl (k 0, 40, .inl fy2)), (y3, .inl (k 0, 40, .inl fy3))] := hD
  refine lv_aload_n hx hb dX0_become_38 rfl (lv_at hl 1 rfl) ?_
  refine va_get (D := D) (ci := 0) (v := .ref y3) (C := RX0) (T := TX0) (N := 4) hx hb hts iT_X0 hown hK hP 4 rfl rfl 3 (by decide) (hts _ tw_1_55) (fun _ h9 => h9) rfl dX0_become_39 ?_
  refine lv_iconst (v := 0) hx hb dX0_become_42 (by decide) ?_
  refine lv_aload_n hx hb dX0_become_43 rfl (lv_at hl 0 rfl) ?_
  refine va_get (D := D) (ci := 0) (v := .ref x3) (C := RX0) (T := TX0) (N := 4) hx hb hts iT_X0 hown hK hP 0 rfl rfl 3 (by decide) (hts _ tw_1_55) (fun _ h9 => h9) rfl dX0_become_44 ?_
  refine lv_iconst (v := 0) hx hb dX0_become_47 (by decide) ?_
  refine lv_bipush (v := 40) hx hb dX0_become_48 (by decide) ?_
  refine va_copyi (ty := .int) hx hb (by rw [hml]; exact hl.1.symm) hown (hts _ tw_6_7) (hts _ tw_4_178) (hts _ tw_4_177) (hts _ tw_1_21) hK hP hD hS 7 3 0 0 rfl rfl rfl rfl rfl (by decide) (by decide) (by decide) (by decide) (by decide) (fun _ _ => rfl) (Nat.le_of_ble_eq_true rfl) (Nat.le_of_ble_eq_true rfl) dX0_become_50 (fun H locs hP hD hS => ?_)
  have hP : va_P D vwCl [(x, .inr (0, [.int 0, .ref x1, .ref x2, .ref x3])), (x1, .inl (k 0, 40, .inl (va_cpy fy1 fx1 0 0 40))), (x2, .inl (k 0, 40, .inl (va_cpy fy2 fx2 0 0 40))), (x3, .inl (k 0, 40, .inl (va_cpy fy3 fx3 0 0 40))), (y, .inr (0, [.int 0, .ref y1, .ref y2, .ref y3])), (y1, .inl (k 0, 40, .inl fy1)), (y2, .inl (k 0, 40, .inl fy2)), (y3, .inl (k 0, 40, .inl fy3))] H := hP
  have hD : va_D A [(x, .inr (0, [.int 0, .ref x1, .ref x2, .ref x3])), (x1, .inl (k 0, 40, .inl (va_cpy fy1 fx1 0 0 40))), (x2, .inl (k 0, 40, .inl (va_cpy fy2 fx2 0 0 40))), (x3, .inl (k 0, 40, .inl (va_cpy fy3 fx3 0 0 40))), (y, .inr (0, [.int 0, .ref y1, .ref y2, .ref y3])), (y1, .inl (k 0, 40, .inl fy1)), (y2, .inl (k 0, 40, .inl fy2)), (y3, .inl (k 0, 40, .inl fy3))] := hD
  have hP9 := hP.sub (ws' := []) [] rfl
  have hD9 := hD.sub (ws' := []) [] (by decide) rfl
  exact W.vret hx hb hr (fun tZ ht hW => ⟨⟨(), rfl, trivial, by rw [ht]; exact hP9, va_K.moved hW.alike hK, hD9⟩, hS.F ht⟩) hS.2.2 dX0_become_53
set_option maxHeartbeats 4000000 in
set_option maxRecDepth 100000 in
theorem c_X10_become (l : Launch) (D : va_G) (k : Nat → ClassId) (x : Nat) (y : Nat) (x3 : Nat) (x4 : Nat) (x5 : Nat) (x6 : Nat) (x9 : Nat) (x10 : Nat) (x12 : Nat) (x13 : Nat) (x14 : Nat) (x15 : Nat) (x17 : Nat) (x18 : Nat) (x19 : Nat) (fx3 : Nat → Int32) (fx4 : Nat → Int32) (fx5 : Nat → Int32) (fx6 : Nat → Int32) (fx9 : Nat → Int32) (fx10 : Nat → Int32) (fx12 : Nat → Int32) (fx13 : Nat → Int32) (fx14 : Nat → Int32) (fx15 : Nat → Int32) (fx17 : Nat → Int32) (fx18 : Nat → Int32) (xk1 : Nat) (xk2 : Nat) (xk3 : Nat) (fxk1 : Nat → Int32) (fxk2 : Nat → Int32) (fxk3 : Nat → Int32) (y3 : Nat) (y4 : Nat) (y5 : Nat) (y6 : Nat) (y9 : Nat) (y10 : Nat) (y12 : Nat) (y13 : Nat) (y14 : Nat) (y15 : Nat) (y17 : Nat) (y18 : Nat) (y19 : Nat) (fy3 : Nat → Int32) (fy4 : Nat → Int32) (fy5 : Nat → Int32) (fy6 : Nat → Int32) (fy9 : Nat → Int32) (fy10 : Nat → Int32) (fy12 : Nat → Int32) (fy13 : Nat → Int32) (fy14 : Nat → Int32) (fy15 : Nat → Int32) (fy17 : Nat → Int32) (fy18 : Nat → Int32) (yk1 : Nat) (yk2 : Nat) (yk3 : Nat) (fyk1 : Nat → Int32) (fyk2 : Nat → Int32) (fyk3 : Nat → Int32) (sz : Nat) : Met l yX10_become (ww yX10_become cX10_become 2 none) ({ frames := 2, cells := 0, slots := 0, locals := 81 }) (Pre0 D k [(x, .inr (10, [.int 0, .int 0, .int 0, .ref x3, .ref x4, .ref x5, .ref x6, .int 0, .int 0, .ref x9, .ref x10, .int 0, .ref x12, .ref x13, .ref x14, .ref x15, .int 0, .ref x17, .ref x18, .ref x19])), (x3, .inl (k 0, 10, .inl fx3)), (x4, .inl (k 0, 10, .inl fx4)), (x5, .inl (k 0, 10, .inl fx5)), (x6, .inl (k 0, 10, .inl fx6)), (x9, .inl (k 0, 4, .inl fx9)), (x10, .inl (k 0, 4, .inl fx10)), (x12, .inl (k 0, 6, .inl fx12)), (x13, .inl (k 0, 6, .inl fx13)), (x14, .inl (k 0, 6, .inl fx14)), (x15, .inl (k 0, 6, .inl fx15)), (x17, .inl (k 0, 2, .inl fx17)), (x18, .inl (k 0, 2, .inl fx18)), (x19, .inr (0, [.int 0, .ref xk1, .ref xk2, .ref xk3])), (xk1, .inl (k 0, 40, .inl fxk1)), (xk2, .inl (k 0, 40, .inl fxk2)), (xk3, .inl (k 0, 40, .inl fxk3)), (y, .inr (10, [.int 0, .int 0, .int 0, .ref y3, .ref y4, .ref y5, .ref y6, .int 0, .int 0, .ref y9, .ref y10, .int 0, .ref y12, .ref y13, .ref y14, .ref y15, .int 0, .ref y17, .ref y18, .ref y19])), (y3, .inl (k 0, 10, .inl fy3)), (y4, .inl (k 0, 10, .inl fy4)), (y5, .inl (k 0, 10, .inl fy5)), (y6, .inl (k 0, 10, .inl fy6)), (y9, .inl (k 0, 4, .inl fy9)), (y10, .inl (k 0, 4, .inl fy10)), (y12, .inl (k 0, 6, .inl fy12)), (y13, .inl (k 0, 6, .inl fy13)), (y14, .inl (k 0, 6, .inl fy14)), (y15, .inl (k 0, 6, .inl fy15)), (y17, .inl (k 0, 2, .inl fy17)), (y18, .inl (k 0, 2, .inl fy18)), (y19, .inr (0, [.int 0, .ref yk1, .ref yk2, .ref yk3])), (yk1, .inl (k 0, 40, .inl fyk1)), (yk2, .inl (k 0, 40, .inl fyk2)), (yk3, .inl (k 0, 40, .inl fyk3))] sz [.ref x, .ref y]) (va_Qv (fun (_ : Unit) => True) (fun (_ : Unit) tZ => Bw D k (va_A [(x, .inr (10, [.int 0, .int 0, .int 0, .ref x3, .ref x4, .ref x5, .ref x6, .int 0, .int 0, .ref x9, .ref x10, .int 0, .ref x12, .ref x13, .ref x14, .ref x15, .int 0, .ref x17, .ref x18, .ref x19])), (x3, .inl (k 0, 10, .inl fx3)), (x4, .inl (k 0, 10, .inl fx4)), (x5, .inl (k 0, 10, .inl fx5)), (x6, .inl (k 0, 10, .inl fx6)), (x9, .inl (k 0, 4, .inl fx9)), (x10, .inl (k 0, 4, .inl fx10)), (x12, .inl (k 0, 6, .inl fx12)), (x13, .inl (k 0, 6, .inl fx13)), (x14, .inl (k 0, 6, .inl fx14)), (x15, .inl (k 0, 6, .inl fx15)), (x17, .inl (k 0, 2, .inl fx17)), (x18, .inl (k 0, 2, .inl fx18)), (x19, .inr (0, [.int 0, .ref xk1, .ref xk2, .ref xk3])), (xk1, .inl (k 0, 40, .inl fxk1)), (xk2, .inl (k 0, 40, .inl fxk2)), (xk3, .inl (k 0, 40, .inl fxk3)), (y, .inr (10, [.int 0, .int 0, .int 0, .ref y3, .ref y4, .ref y5, .ref y6, .int 0, .int 0, .ref y9, .ref y10, .int 0, .ref y12, .ref y13, .ref y14, .ref y15, .int 0, .ref y17, .ref y18, .ref y19])), (y3, .inl (k 0, 10, .inl fy3)), (y4, .inl (k 0, 10, .inl fy4)), (y5, .inl (k 0, 10, .inl fy5)), (y6, .inl (k 0, 10, .inl fy6)), (y9, .inl (k 0, 4, .inl fy9)), (y10, .inl (k 0, 4, .inl fy10)), (y12, .inl (k 0, 6, .inl fy12)), (y13, .inl (k 0, 6, .inl fy13)), (y14, .inl (k 0, 6, .inl fy14)), (y15, .inl (k 0, 6, .inl fy15)), (y17, .inl (k 0, 2, .inl fy17)), (y18, .inl (k 0, 2, .inl fy18)), (y19, .inr (0, [.int 0, .ref yk1, .ref yk2, .ref yk3])), (yk1, .inl (k 0, 40, .inl fyk1)), (yk2, .inl (k 0, 40, .inl fyk2)), (yk3, .inl (k 0, 40, .inl fyk3))] sz) [] tZ) (va_A [(x, .inr (10, [.int 0, .int 0, .int 0, .ref x3, .ref x4, .ref x5, .ref x6, .int 0, .int 0, .ref x9, .ref x10, .int 0, .ref x12, .ref x13, .ref x14, .ref x15, .int 0, .ref x17, .ref x18, .ref x19])), (x3, .inl (k 0, 10, .inl fx3)), (x4, .inl (k 0, 10, .inl fx4)), (x5, .inl (k 0, 10, .inl fx5)), (x6, .inl (k 0, 10, .inl fx6)), (x9, .inl (k 0, 4, .inl fx9)), (x10, .inl (k 0, 4, .inl fx10)), (x12, .inl (k 0, 6, .inl fx12)), (x13, .inl (k 0, 6, .inl fx13)), (x14, .inl (k 0, 6, .inl fx14)), (x15, .inl (k 0, 6, .inl fx15)), (x17, .inl (k 0, 2, .inl fx17)), (x18, .inl (k 0, 2, .inl fx18)), (x19, .inr (0, [.int 0, .ref xk1, .ref xk2, .ref xk3])), (xk1, .inl (k 0, 40, .inl fxk1)), (xk2, .inl (k 0, 40, .inl fxk2)), (xk3, .inl (k 0, 40, .inl fxk3)), (y, .inr (10, [.int 0, .int 0, .int 0, .ref y3, .ref y4, .ref y5, .ref y6, .int 0, .int 0, .ref y9, .ref y10, .int 0, .ref y12, .ref y13, .ref y14, .ref y15, .int 0, .ref y17, .ref y18, .ref y19])), (y3, .inl (k 0, 10, .inl fy3)), (y4, .inl (k 0, 10, .inl fy4)), (y5, .inl (k 0, 10, .inl fy5)), (y6, .inl (k 0, 10, .inl fy6)), (y9, .inl (k 0, 4, .inl fy9)), (y10, .inl (k 0, 4, .inl fy10)), (y12, .inl (k 0, 6, .inl fy12)), (y13, .inl (k 0, 6, .inl fy13)), (y14, .inl (k 0, 6, .inl fy14)), (y15, .inl (k 0, 6, .inl fy15)), (y17, .inl (k 0, 2, .inl fy17)), (y18, .inl (k 0, 2, .inl fy18)), (y19, .inr (0, [.int 0, .ref yk1, .ref yk2, .ref yk3])), (yk1, .inl (k 0, 40, .inl fyk1)), (yk2, .inl (k 0, 40, .inl fyk2)), (yk3, .inl (k 0, 40, .inl fyk3))] sz)) 0 0 (va_A [(x, .inr (10, [.int 0, .int 0, .int 0, .ref x3, .ref x4, .ref x5, .ref x6, .int 0, .int 0, .ref x9, .ref x10, .int 0, .ref x12, .ref x13, .ref x14, .ref x15, .int 0, .ref x17, .ref x18, .ref x19])), (x3, .inl (k 0, 10, .inl fx3)), (x4, .inl (k 0, 10, .inl fx4)), (x5, .inl (k 0, 10, .inl fx5)), (x6, .inl (k 0, 10, .inl fx6)), (x9, .inl (k 0, 4, .inl fx9)), (x10, .inl (k 0, 4, .inl fx10)), (x12, .inl (k 0, 6, .inl fx12)), (x13, .inl (k 0, 6, .inl fx13)), (x14, .inl (k 0, 6, .inl fx14)), (x15, .inl (k 0, 6, .inl fx15)), (x17, .inl (k 0, 2, .inl fx17)), (x18, .inl (k 0, 2, .inl fx18)), (x19, .inr (0, [.int 0, .ref xk1, .ref xk2, .ref xk3])), (xk1, .inl (k 0, 40, .inl fxk1)), (xk2, .inl (k 0, 40, .inl fxk2)), (xk3, .inl (k 0, 40, .inl fxk3)), (y, .inr (10, [.int 0, .int 0, .int 0, .ref y3, .ref y4, .ref y5, .ref y6, .int 0, .int 0, .ref y9, .ref y10, .int 0, .ref y12, .ref y13, .ref y14, .ref y15, .int 0, .ref y17, .ref y18, .ref y19])), (y3, .inl (k 0, 10, .inl fy3)), (y4, .inl (k 0, 10, .inl fy4)), (y5, .inl (k 0, 10, .inl fy5)), (y6, .inl (k 0, 10, .inl fy6)), (y9, .inl (k 0, 4, .inl fy9)), (y10, .inl (k 0, 4, .inl fy10)), (y12, .inl (k 0, 6, .inl fy12)), (y13, .inl (k 0, 6, .inl fy13)), (y14, .inl (k 0, 6, .inl fy14)), (y15, .inl (k 0, 6, .inl fy15)), (y17, .inl (k 0, 2, .inl fy17)), (y18, .inl (k 0, 2, .inl fy18)), (y19, .inr (0, [.int 0, .ref yk1, .ref yk2, .ref yk3])), (yk1, .inl (k 0, 40, .inl fyk1)), (yk2, .inl (k 0, 40, .inl fyk2)), (yk3, .inl (k 0, 40, .inl fyk3))] sz) := by
  refine Met.ofW (cc := cX10_become) (maxL := 2) (ret := none) (by decide +kernel) rfl ?_
  intro p e s m args below meth c s₁ B hml hv
  obtain ⟨rfl, hsz, hP, hK, hD0, hN⟩ := hv
  have hx := B.exec
  have hb := B.bytes
  have hr := B.returns
  have hts : ∀ w ∈ TT, w.before _ s = true := fun w h => atoms_spec (ws := ww yX10_become cX10_become 2 none) B.pre w (List.mem_cons_of_mem _ h)
  have hown : s.vm.findClass RX10 = some m.cls := findClass_of_methodNamed B.named
  have hlocks := B.notSynchronized
  subst hsz
  have hD := hD0.self (sz := s.heap.size)
  generalize hAe : va_A [(x, .inr (10, [.int 0, .int 0, .int 0, .ref x3, .ref x4, .ref x5, .ref x6, .int 0, .int 0, .ref x9, .ref x10, .int 0, .ref x12, .ref x13, .ref x14, .ref x15, .int 0, .ref x17, .ref x18, .ref x19])), (x3, .inl (k 0, 10, .inl fx3)), (x4, .inl (k 0, 10, .inl fx4)), (x5, .inl (k 0, 10, .inl fx5)), (x6, .inl (k 0, 10, .inl fx6)), (x9, .inl (k 0, 4, .inl fx9)), (x10, .inl (k 0, 4, .inl fx10)), (x12, .inl (k 0, 6, .inl fx12)), (x13, .inl (k 0, 6, .inl fx13)), (x14, .inl (k 0, 6, .inl fx14)), (x15, .inl (k 0, 6, .inl fx15)), (x17, .inl (k 0, 2, .inl fx17)), (x18, .inl (k 0, 2, .inl fx18)), (x19, .inr (0, [.int 0, .ref xk1, .ref xk2, .ref xk3])), (xk1, .inl (k 0, 40, .inl fxk1)), (xk2, .inl (k 0, 40, .inl fxk2)), (xk3, .inl (k 0, 40, .inl fxk3)), (y, .inr (10, [.int 0, .int 0, .int 0, .ref y3, .ref y4, .ref y5, .ref y6, .int 0, .int 0, .ref y9, .ref y10, .int 0, .ref y12, .ref y13, .ref y14, .ref y15, .int 0, .ref y17, .ref y18, .ref y19])), (y3, .inl (k 0, 10, .inl fy3)), (y4, .inl (k 0, 10, .inl fy4)), (y5, .inl (k 0, 10, .inl fy5)), (y6, .inl (k 0, 10, .inl fy6)), (y9, .inl (k 0, 4, .inl fy9)), (y10, .inl (k 0, 4, .inl fy10)), (y12, .inl (k 0, 6, .inl fy12)), (y13, .inl (k 0, 6, .inl fy13)), (y14, .inl (k 0, 6, .inl fy14)), (y15, .inl (k 0, 6, .inl fy15)), (y17, .inl (k 0, 2, .inl fy17)), (y18, .inl (k 0, 2, .inl fy18)), (y19, .inr (0, [.int 0, .ref yk1, .ref yk2, .ref yk3])), (yk1, .inl (k 0, 40, .inl fyk1)), (yk2, .inl (k 0, 40, .inl fyk2)), (yk3, .inl (k 0, 40, .inl fyk3))] s.heap.size = A at hD ⊢
  have hA : ∀ q : Nat, s.heap.size ≤ q → A q := fun q h => by rw [← hAe]; exact Or.inr h
  have hS : va_S A s.heap s.heap [] := va_S.rf
  have hl := lv_entry ([.ref x, .ref y]) (n := 2) (Nat.le_of_ble_eq_true rfl)
  rw [lg_entry_eq]
  generalize (lg_sl ([.ref x, .ref y]) ++ List.replicate (2 - (lg_sl ([.ref x, .ref y])).length) Slot.unset).toArray = ls at hl ⊢
  have hl : lv_has ls 2 [(0, .ref x), (1, .ref y)] := hl
  refine lv_aload_n hx hb dX10_become_0 rfl (lv_at hl 0 rfl) ?_
  refine lv_aload_n hx hb dX10_become_1 rfl (lv_at hl 1 rfl) ?_
  refine va_get (D := D) (ci := 10) (v := .int 0) (C := RX10) (T := TX10) (N := 20) hx hb hts iT_X10 hown hK hP 17 rfl rfl 0 (by decide) (hts _ tw_1_67) (fun _ h9 => h9) rfl dX10_become_2 ?_
  refine va_put (D := D) (ci := 10) (v := .int 0) (ty := tyX10 0) (C := RX10) (T := TX10) (N := 20) hx hb hts iT_X10 tyX10 tyX10_ok nmX10 hown hK hP hD hS 0 rfl rfl 0 (by decide) (hts _ tw_1_67) (fun _ h9 => h9) rfl (tyX10_ok 0 (by decide)) rfl rfl (Nat.le_of_ble_eq_true rfl) dX10_become_5 (fun H locs hP hD hS => ?_)
  have hP : va_P D vwCl [(x, .inr (10, [.int 0, .int 0, .int 0, .ref x3, .ref x4, .ref x5, .ref x6, .int 0, .int 0, .ref x9, .ref x10, .int 0, .ref x12, .ref x13, .ref x14, .ref x15, .int 0, .ref x17, .ref x18, .ref x19])), (x3, .inl (k 0, 10, .inl fx3)), (x4, .inl (k 0, 10, .inl fx4)), (x5, .inl (k 0, 10, .inl fx5)), (x6, .inl (k 0, 10, .inl fx6)), (x9, .inl (k 0, 4, .inl fx9)), (x10, .inl (k 0, 4, .inl fx10)), (x12, .inl (k 0, 6, .inl fx12)), (x13, .inl (k 0, 6, .inl fx13)), (x14, .inl (k 0, 6, .inl fx14)), (x15, .inl (k 0, 6, .inl fx15)), (x17, .inl (k 0, 2, .inl fx17)), (x18, .inl (k 0, 2, .inl fx18)), (x19, .inr (0, [.int 0, .ref xk1, .ref xk2, .ref xk3])), (xk1, .inl (k 0, 40, .inl fxk1)), (xk2, .inl (k 0, 40, .inl fxk2)), (xk3, .inl (k 0, 40, .inl fxk3)), (y, .inr (10, [.int 0, .int 0, .int 0, .ref y3, .ref y4, .ref y5, .ref y6, .int 0, .int 0, .ref y9, .ref y10, .int 0, .ref y12, .ref y13, .ref y14, .ref y15, .int 0, .ref y17, .ref y18, .ref y19])), (y3, .inl (k 0, 10, .inl fy3)), (y4, .inl (k 0, 10, .inl fy4)), (y5, .inl (k 0, 10, .inl fy5)), (y6, .inl (k 0, 10, .inl fy6)), (y9, .inl (k 0, 4, .inl fy9)), (y10, .inl (k 0, 4, .inl fy10)), (y12, .inl (k 0, 6, .inl fy12)), (y13, .inl (k 0, 6, .inl fy13)), (y14, .inl (k 0, 6, .inl fy14)), (y15, .inl (k 0, 6, .inl fy15)), (y17, .inl (k 0, 2, .inl fy17)), (y18, .inl (k 0, 2, .inl fy18)), (y19, .inr (0, [.int 0, .ref yk1, .ref yk2, .ref yk3])), (yk1, .inl (k 0, 40, .inl fyk1)), (yk2, .inl (k 0, 40, .inl fyk2)), (yk3, .inl (k 0, 40, .inl fyk3))] H := hP
  have hD : va_D A [(x, .inr (10, [.int 0, .int 0, .int 0, .ref x3, .ref x4, .ref x5, .ref x6, .int 0, .int 0, .ref x9, .ref x10, .int 0, .ref x12, .ref x13, .ref x14, .ref x15, .int 0, .ref x17, .ref x18, .ref x19])), (x3, .inl (k 0, 10, .inl fx3)), (x4, .inl (k 0, 10, .inl fx4)), (x5, .inl (k 0, 10, .inl fx5)), (x6, .inl (k 0, 10, .inl fx6)), (x9, .inl (k 0, 4, .inl fx9)), (x10, .inl (k 0, 4, .inl fx10)), (x12, .inl (k 0, 6, .inl fx12)), (x13, .inl (k 0, 6, .inl fx13)), (x14, .inl (k 0, 6, .inl fx14)), (x15, .inl (k 0, 6, .inl fx15)), (x17, .inl (k 0, 2, .inl fx17)), (x18, .inl (k 0, 2, .inl fx18)), (x19, .inr (0, [.int 0, .ref xk1, .ref xk2, .ref xk3])), (xk1, .inl (k 0, 40, .inl fxk1)), (xk2, .inl (k 0, 40, .inl fxk2)), (xk3, .inl (k 0, 40, .inl fxk3)), (y, .inr (10, [.int 0, .int 0, .int 0, .ref y3, .ref y4, .ref y5, .ref y6, .int 0, .int 0, .ref y9, .ref y10, .int 0, .ref y12, .ref y13, .ref y14, .ref y15, .int 0, .ref y17, .ref y18, .ref y19])), (y3, .inl (k 0, 10, .inl fy3)), (y4, .inl (k 0, 10, .inl fy4)), (y5, .inl (k 0, 10, .inl fy5)), (y6, .inl (k 0, 10, .inl fy6)), (y9, .inl (k 0, 4, .inl fy9)), (y10, .inl (k 0, 4, .inl fy10)), (y12, .inl (k 0, 6, .inl fy12)), (y13, .inl (k 0, 6, .inl fy13)), (y14, .inl (k 0, 6, .inl fy14)), (y15, .inl (k 0, 6, .inl fy15)), (y17, .inl (k 0, 2, .inl fy17)), (y18, .inl (k 0, 2, .inl fy18)), (y19, .inr (0, [.int 0, .ref yk1, .ref yk2, .ref yk3])), (yk1, .inl (k 0, 40, .inl fyk1)), (yk2, .inl (k 0, 40, .inl fyk2)), (yk3, .inl (k 0, 40, .inl fyk3))] := hD
  refine lv_aload_n hx hb dX10_become_8 rfl (lv_at hl 0 rfl) ?_
  refine lv_aload_n hx hb dX10_become_9 rfl (lv_at hl 1 rfl) ?_
  refine va_get (D := D) (ci := 10) (v := .int 0) (C := RX10) (T := TX10) (N := 20) hx hb hts iT_X10 hown hK hP 17 rfl rfl 1 (by decide) (hts _ tw_1_74) (fun _ h9 => h9) rfl dX10_become_10 ?_
  refine va_put (D := D) (ci := 10) (v := .int 0) (ty := tyX10 1) (C := RX10) (T := TX10) (N := 20) hx hb hts iT_X10 tyX10 tyX10_ok nmX10 hown hK hP hD hS 0 rfl rfl 1 (by decide) (hts _ tw_1_74) (fun _ h9 => h9) rfl (tyX10_ok 1 (by decide)) rfl rfl (Nat.le_of_ble_eq_true rfl) dX10_become_13 (fun H locs hP hD hS => ?_)
  have hP : va_P D vwCl [(x, .inr (10, [.int 0, .int 0, .int 0, .ref x3, .ref x4, .ref x5, .ref x6, .int 0, .int 0, .ref x9, .ref x10, .int 0, .ref x12, .ref x13, .ref x14, .ref x15, .int 0, .ref x17, .ref x18, .ref x19])), (x3, .inl (k 0, 10, .inl fx3)), (x4, .inl (k 0, 10, .inl fx4)), (x5, .inl (k 0, 10, .inl fx5)), (x6, .inl (k 0, 10, .inl fx6)), (x9, .inl (k 0, 4, .inl fx9)), (x10, .inl (k 0, 4, .inl fx10)), (x12, .inl (k 0, 6, .inl fx12)), (x13, .inl (k 0, 6, .inl fx13)), (x14, .inl (k 0, 6, .inl fx14)), (x15, .inl (k 0, 6, .inl fx15)), (x17, .inl (k 0, 2, .inl fx17)), (x18, .inl (k 0, 2, .inl fx18)), (x19, .inr (0, [.int 0, .ref xk1, .ref xk2, .ref xk3])), (xk1, .inl (k 0, 40, .inl fxk1)), (xk2, .inl (k 0, 40, .inl fxk2)), (xk3, .inl (k 0, 40, .inl fxk3)), (y, .inr (10, [.int 0, .int 0, .int 0, .ref y3, .ref y4, .ref y5, .ref y6, .int 0, .int 0, .ref y9, .ref y10, .int 0, .ref y12, .ref y13, .ref y14, .ref y15, .int 0, .ref y17, .ref y18, .ref y19])), (y3, .inl (k 0, 10, .inl fy3)), (y4, .inl (k 0, 10, .inl fy4)), (y5, .inl (k 0, 10, .inl fy5)), (y6, .inl (k 0, 10, .inl fy6)), (y9, .inl (k 0, 4, .inl fy9)), (y10, .inl (k 0, 4, .inl fy10)), (y12, .inl (k 0, 6, .inl fy12)), (y13, .inl (k 0, 6, .inl fy13)), (y14, .inl (k 0, 6, .inl fy14)), (y15, .inl (k 0, 6, .inl fy15)), (y17, .inl (k 0, 2, .inl fy17)), (y18, .inl (k 0, 2, .inl fy18)), (y19, .inr (0, [.int 0, .ref yk1, .ref yk2, .ref yk3])), (yk1, .inl (k 0, 40, .inl fyk1)), (yk2, .inl (k 0, 40, .inl fyk2)), (yk3, .inl (k 0, 40, .inl fyk3))] H := hP
  have hD : va_D A [(x, .inr (10, [.int 0, .int 0, .int 0, .ref x3, .ref x4, .ref x5, .ref x6, .int 0, .int 0, .ref x9, .ref x10, .int 0, .ref x12, .ref x13, .ref x14, .ref x15, .int 0, .ref x17, .ref x18, .ref x19])), (x3, .inl (k 0, 10, .inl fx3)), (x4, .inl (k 0, 10, .inl fx4)), (x5, .inl (k 0, 10, .inl fx5)), (x6, .inl (k 0, 10, .inl fx6)), (x9, .inl (k 0, 4, .inl fx9)), (x10, .inl (k 0, 4, .inl fx10)), (x12, .inl (k 0, 6, .inl fx12)), (x13, .inl (k 0, 6, .inl fx13)), (x14, .inl (k 0, 6, .inl fx14)), (x15, .inl (k 0, 6, .inl fx15)), (x17, .inl (k 0, 2, .inl fx17)), (x18, .inl (k 0, 2, .inl fx18)), (x19, .inr (0, [.int 0, .ref xk1, .ref xk2, .ref xk3])), (xk1, .inl (k 0, 40, .inl fxk1)), (xk2, .inl (k 0, 40, .inl fxk2)), (xk3, .inl (k 0, 40, .inl fxk3)), (y, .inr (10, [.int 0, .int 0, .int 0, .ref y3, .ref y4, .ref y5, .ref y6, .int 0, .int 0, .ref y9, .ref y10, .int 0, .ref y12, .ref y13, .ref y14, .ref y15, .int 0, .ref y17, .ref y18, .ref y19])), (y3, .inl (k 0, 10, .inl fy3)), (y4, .inl (k 0, 10, .inl fy4)), (y5, .inl (k 0, 10, .inl fy5)), (y6, .inl (k 0, 10, .inl fy6)), (y9, .inl (k 0, 4, .inl fy9)), (y10, .inl (k 0, 4, .inl fy10)), (y12, .inl (k 0, 6, .inl fy12)), (y13, .inl (k 0, 6, .inl fy13)), (y14, .inl (k 0, 6, .inl fy14)), (y15, .inl (k 0, 6, .inl fy15)), (y17, .inl (k 0, 2, .inl fy17)), (y18, .inl (k 0, 2, .inl fy18)), (y19, .inr (0, [.int 0, .ref yk1, .ref yk2, .ref yk3])), (yk1, .inl (k 0, 40, .inl fyk1)), (yk2, .inl (k 0, 40, .inl fyk2)), (yk3, .inl (k 0, 40, .inl fyk3))] := hD
  refine lv_aload_n hx hb dX10_become_16 rfl (lv_at hl 0 rfl) ?_
  refine lv_aload_n hx hb dX10_become_17 rfl (lv_at hl 1 rfl) ?_
  refine va_get (D := D) (ci := 10) (v := .int 0) (C := RX10) (T := TX10) (N := 20) hx hb hts iT_X10 hown hK hP 17 rfl rfl 2 (by decide) (hts _ tw_1_77) (fun _ h9 => h9) rfl dX10_become_18 ?_
  refine va_put (D := D) (ci := 10) (v := .int 0) (ty := tyX10 2) (C := RX10) (T := TX10) (N := 20) hx hb hts iT_X10 tyX10 tyX10_ok nmX10 hown hK hP hD hS 0 rfl rfl 2 (by decide) (hts _ tw_1_77) (fun _ h9 => h9) rfl (tyX10_ok 2 (by decide)) rfl rfl (Nat.le_of_ble_eq_true rfl) dX10_become_21 (fun H locs hP hD hS => ?_)
  have hP : va_P D vwCl [(x, .inr (10, [.int 0, .int 0, .int 0, .ref x3, .ref x4, .ref x5, .ref x6, .int 0, .int 0, .ref x9, .ref x10, .int 0, .ref x12, .ref x13, .ref x14, .ref x15, .int 0, .ref x17, .ref x18, .ref x19])), (x3, .inl (k 0, 10, .inl fx3)), (x4, .inl (k 0, 10, .inl fx4)), (x5, .inl (k 0, 10, .inl fx5)), (x6, .inl (k 0, 10, .inl fx6)), (x9, .inl (k 0, 4, .inl fx9)), (x10, .inl (k 0, 4, .inl fx10)), (x12, .inl (k 0, 6, .inl fx12)), (x13, .inl (k 0, 6, .inl fx13)), (x14, .inl (k 0, 6, .inl fx14)), (x15, .inl (k 0, 6, .inl fx15)), (x17, .inl (k 0, 2, .inl fx17)), (x18, .inl (k 0, 2, .inl fx18)), (x19, .inr (0, [.int 0, .ref xk1, .ref xk2, .ref xk3])), (xk1, .inl (k 0, 40, .inl fxk1)), (xk2, .inl (k 0, 40, .inl fxk2)), (xk3, .inl (k 0, 40, .inl fxk3)), (y, .inr (10, [.int 0, .int 0, .int 0, .ref y3, .ref y4, .ref y5, .ref y6, .int 0, .int 0, .ref y9, .ref y10, .int 0, .ref y12, .ref y13, .ref y14, .ref y15, .int 0, .ref y17, .ref y18, .ref y19])), (y3, .inl (k 0, 10, .inl fy3)), (y4, .inl (k 0, 10, .inl fy4)), (y5, .inl (k 0, 10, .inl fy5)), (y6, .inl (k 0, 10, .inl fy6)), (y9, .inl (k 0, 4, .inl fy9)), (y10, .inl (k 0, 4, .inl fy10)), (y12, .inl (k 0, 6, .inl fy12)), (y13, .inl (k 0, 6, .inl fy13)), (y14, .inl (k 0, 6, .inl fy14)), (y15, .inl (k 0, 6, .inl fy15)), (y17, .inl (k 0, 2, .inl fy17)), (y18, .inl (k 0, 2, .inl fy18)), (y19, .inr (0, [.int 0, .ref yk1, .ref yk2, .ref yk3])), (yk1, .inl (k 0, 40, .inl fyk1)), (yk2, .inl (k 0, 40, .inl fyk2)), (yk3, .inl (k 0, 40, .inl fyk3))] H := hP
  have hD : va_D A [(x, .inr (10, [.int 0, .int 0, .int 0, .ref x3, .ref x4, .ref x5, .ref x6, .int 0, .int 0, .ref x9, .ref x10, .int 0, .ref x12, .ref x13, .ref x14, .ref x15, .int 0, .ref x17, .ref x18, .ref x19])), (x3, .inl (k 0, 10, .inl fx3)), (x4, .inl (k 0, 10, .inl fx4)), (x5, .inl (k 0, 10, .inl fx5)), (x6, .inl (k 0, 10, .inl fx6)), (x9, .inl (k 0, 4, .inl fx9)), (x10, .inl (k 0, 4, .inl fx10)), (x12, .inl (k 0, 6, .inl fx12)), (x13, .inl (k 0, 6, .inl fx13)), (x14, .inl (k 0, 6, .inl fx14)), (x15, .inl (k 0, 6, .inl fx15)), (x17, .inl (k 0, 2, .inl fx17)), (x18, .inl (k 0, 2, .inl fx18)), (x19, .inr (0, [.int 0, .ref xk1, .ref xk2, .ref xk3])), (xk1, .inl (k 0, 40, .inl fxk1)), (xk2, .inl (k 0, 40, .inl fxk2)), (xk3, .inl (k 0, 40, .inl fxk3)), (y, .inr (10, [.int 0, .int 0, .int 0, .ref y3, .ref y4, .ref y5, .ref y6, .int 0, .int 0, .ref y9, .ref y10, .int 0, .ref y12, .ref y13, .ref y14, .ref y15, .int 0, .ref y17, .ref y18, .ref y19])), (y3, .inl (k 0, 10, .inl fy3)), (y4, .inl (k 0, 10, .inl fy4)), (y5, .inl (k 0, 10, .inl fy5)), (y6, .inl (k 0, 10, .inl fy6)), (y9, .inl (k 0, 4, .inl fy9)), (y10, .inl (k 0, 4, .inl fy10)), (y12, .inl (k 0, 6, .inl fy12)), (y13, .inl (k 0, 6, .inl fy13)), (y14, .inl (k 0, 6, .inl fy14)), (y15, .inl (k 0, 6, .inl fy15)), (y17, .inl (k 0, 2, .inl fy17)), (y18, .inl (k 0, 2, .inl fy18)), (y19, .inr (0, [.int 0, .ref yk1, .ref yk2, .ref yk3])), (yk1, .inl (k 0, 40, .inl fyk1)), (yk2, .inl (k 0, 40, .inl fyk2)), (yk3, .inl (k 0, 40, .inl fyk3))] := hD
  refine lv_aload_n hx hb dX10_become_24 rfl (lv_at hl 1 rfl) ?_
  refine va_get (D := D) (ci := 10) (v := .ref y3) (C := RX10) (T := TX10) (N := 20) hx hb hts iT_X10 hown hK hP 17 rfl rfl 3 (by decide) (hts _ tw_1_83) (fun _ h9 => h9) rfl dX10_become_25 ?_
  refine lv_iconst (v := 0) hx hb dX10_become_28 (by decide) ?_
  refine lv_aload_n hx hb dX10_become_29 rfl (lv_at hl 0 rfl) ?_
  refine va_get (D := D) (ci := 10) (v := .ref x3) (C := RX10) (T := TX10) (N := 20) hx hb hts iT_X10 hown hK hP 0 rfl rfl 3 (by decide) (hts _ tw_1_83) (fun _ h9 => h9) rfl dX10_become_30 ?_
  refine lv_iconst (v := 0) hx hb dX10_become_33 (by decide) ?_
  refine lv_bipush (v := 10) hx hb dX10_become_34 (by decide) ?_
  refine va_copyi (ty := .int) hx hb (by rw [hml]; exact hl.1.symm) hown (hts _ tw_6_2) (hts _ tw_4_178) (hts _ tw_4_177) (hts _ tw_1_21) hK hP hD hS 18 1 0 0 rfl rfl rfl rfl rfl (by decide) (by decide) (by decide) (by decide) (by decide) (fun _ _ => rfl) (Nat.le_of_ble_eq_true rfl) (Nat.le_of_ble_eq_true rfl) dX10_become_36 (fun H locs hP hD hS => ?_)
  have hP : va_P D vwCl [(x, .inr (10, [.int 0, .int 0, .int 0, .ref x3, .ref x4, .ref x5, .ref x6, .int 0, .int 0, .ref x9, .ref x10, .int 0, .ref x12, .ref x13, .ref x14, .ref x15, .int 0, .ref x17, .ref x18, .ref x19])), (x3, .inl (k 0, 10, .inl (va_cpy fy3 fx3 0 0 10))), (x4, .inl (k 0, 10, .inl fx4)), (x5, .inl (k 0, 10, .inl fx5)), (x6, .inl (k 0, 10, .inl fx6)), (x9, .inl (k 0, 4, .inl fx9)), (x10, .inl (k 0, 4, .inl fx10)), (x12, .inl (k 0, 6, .inl fx12)), (x13, .inl (k 0, 6, .inl fx13)), (x14, .inl (k 0, 6, .inl fx14)), (x15, .inl (k 0, 6, .inl fx15)), (x17, .inl (k 0, 2, .inl fx17)), (x18, .inl (k 0, 2, .inl fx18)), (x19, .inr (0, [.int 0, .ref xk1, .ref xk2, .ref xk3])), (xk1, .inl (k 0, 40, .inl fxk1)), (xk2, .inl (k 0, 40, .inl fxk2)), (xk3, .inl (k 0, 40, .inl fxk3)), (y, .inr (10, [.int 0, .int 0, .int 0, .ref y3, .ref y4, .ref y5, .ref y6, .int 0, .int 0, .ref y9, .ref y10, .int 0, .ref y12, .ref y13, .ref y14, .ref y15, .int 0, .ref y17, .ref y18, .ref y19])), (y3, .inl (k 0, 10, .inl fy3)), (y4, .inl (k 0, 10, .inl fy4)), (y5, .inl (k 0, 10, .inl fy5)), (y6, .inl (k 0, 10, .inl fy6)), (y9, .inl (k 0, 4, .inl fy9)), (y10, .inl (k 0, 4, .inl fy10)), (y12, .inl (k 0, 6, .inl fy12)), (y13, .inl (k 0, 6, .inl fy13)), (y14, .inl (k 0, 6, .inl fy14)), (y15, .inl (k 0, 6, .inl fy15)), (y17, .inl (k 0, 2, .inl fy17)), (y18, .inl (k 0, 2, .inl fy18)), (y19, .inr (0, [.int 0, .ref yk1, .ref yk2, .ref yk3])), (yk1, .inl (k 0, 40, .inl fyk1)), (yk2, .inl (k 0, 40, .inl fyk2)), (yk3, .inl (k 0, 40, .inl fyk3))] H := hP
  have hD : va_D A [(x, .inr (10, [.int 0, .int 0, .int 0, .ref x3, .ref x4, .ref x5, .ref x6, .int 0, .int 0, .ref x9, .ref x10, .int 0, .ref x12, .ref x13, .ref x14, .ref x15, .int 0, .ref x17, .ref x18, .ref x19])), (x3, .inl (k 0, 10, .inl (va_cpy fy3 fx3 0 0 10))), (x4, .inl (k 0, 10, .inl fx4)), (x5, .inl (k 0, 10, .inl fx5)), (x6, .inl (k 0, 10, .inl fx6)), (x9, .inl (k 0, 4, .inl fx9)), (x10, .inl (k 0, 4, .inl fx10)), (x12, .inl (k 0, 6, .inl fx12)), (x13, .inl (k 0, 6, .inl fx13)), (x14, .inl (k 0, 6, .inl fx14)), (x15, .inl (k 0, 6, .inl fx15)), (x17, .inl (k 0, 2, .inl fx17)), (x18, .inl (k 0, 2, .inl fx18)), (x19, .inr (0, [.int 0, .ref xk1, .ref xk2, .ref xk3])), (xk1, .inl (k 0, 40, .inl fxk1)), (xk2, .inl (k 0, 40, .inl fxk2)), (xk3, .inl (k 0, 40, .inl fxk3)), (y, .inr (10, [.int 0, .int 0, .int 0, .ref y3, .ref y4, .ref y5, .ref y6, .int 0, .int 0, .ref y9, .ref y10, .int 0, .ref y12, .ref y13, .ref y14, .ref y15, .int 0, .ref y17, .ref y18, .ref y19])), (y3, .inl (k 0, 10, .inl fy3)), (y4, .inl (k 0, 10, .inl fy4)), (y5, .inl (k 0, 10, .inl fy5)), (y6, .inl (k 0, 10, .inl fy6)), (y9, .inl (k 0, 4, .inl fy9)), (y10, .inl (k 0, 4, .inl fy10)), (y12, .inl (k 0, 6, .inl fy12)), (y13, .inl (k 0, 6, .inl fy13)), (y14, .inl (k 0, 6, .inl fy14)), (y15, .inl (k 0, 6, .inl fy15)), (y17, .inl (k 0, 2, .inl fy17)), (y18, .inl (k 0, 2, .inl fy18)), (y19, .inr (0, [.int 0, .ref yk1, .ref yk2, .ref yk3])), (yk1, .inl (k 0, 40, .inl fyk1)), (yk2, .inl (k 0, 40, .inl fyk2)), (yk3, .inl (k 0, 40, .inl fyk3))] := hD
  refine lv_aload_n hx hb dX10_become_39 rfl (lv_at hl 1 rfl) ?_
  refine va_get (D := D) (ci := 10) (v := .ref y4) (C := RX10) (T := TX10) (N := 20) hx hb hts iT_X10 hown hK hP 17 rfl rfl 4 (by decide) (hts _ tw_1_88) (fun _ h9 => h9) rfl dX10_become_40 ?_
  refine lv_iconst (v := 0) hx hb dX10_become_43 (by decide) ?_
  refine lv_aload_n hx hb dX10_become_44 rfl (lv_at hl 0 rfl) ?_
  refine va_get (D := D) (ci := 10) (v := .ref x4) (C := RX10) (T := TX10) (N := 20) hx hb hts iT_X10 hown hK hP 0 rfl rfl 4 (by decide) (hts _ tw_1_88) (fun _ h9 => h9) rfl dX10_become_45 ?_
  refine lv_iconst (v := 0) hx hb dX10_become_48 (by decide) ?_
  refine lv_bipush (v := 10) hx hb dX10_become_49 (by decide) ?_
  refine va_copyi (ty := .int) hx hb (by rw [hml]; exact hl.1.symm) hown (hts _ tw_6_2) (hts _ tw_4_178) (hts _ tw_4_177) (hts _ tw_1_21) hK hP hD hS 19 2 0 0 rfl rfl rfl rfl rfl (by decide) (by decide) (by decide) (by decide) (by decide) (fun _ _ => rfl) (Nat.le_of_ble_eq_true rfl) (Nat.le_of_ble_eq_true rfl) dX10_become_51 (fun H locs hP hD hS => ?_)
  have hP : va_P D vwCl [(x, .inr (10, [.int 0, .int 0, .int 0, .ref x3, .ref x4, .ref x5, .ref x6, .int 0, .int 0, .ref x9, .ref x10, .int 0, .ref x12, .ref x13, .ref x14, .ref x15, .int 0, .ref x17, .ref x18, .ref x19])), (x3, .inl (k 0, 10, .inl (va_cpy fy3 fx3 0 0 10))), (x4, .inl (k 0, 10, .inl (va_cpy fy4 fx4 0 0 10))), (x5, .inl (k 0, 10, .inl fx5)), (x6, .inl (k 0, 10, .inl fx6)), (x9, .inl (k 0, 4, .inl fx9)), (x10, .inl (k 0, 4, .inl fx10)), (x12, .inl (k 0, 6, .inl fx12)), (x13, .inl (k 0, 6, .inl fx13)), (x14, .inl (k 0, 6, .inl fx14)), (x15, .inl (k 0, 6, .inl fx15)), (x17, .inl (k 0, 2, .inl fx17)), (x18, .inl (k 0, 2, .inl fx18)), (x19, .inr (0, [.int 0, .ref xk1, .ref xk2, .ref xk3])), (xk1, .inl (k 0, 40, .inl fxk1)), (xk2, .inl (k 0, 40, .inl fxk2)), (xk3, .inl (k 0, 40, .inl fxk3)), (y, .inr (10, [.int 0, .int 0, .int 0, .ref y3, .ref y4, .ref y5, .ref y6, .int 0, .int 0, .ref y9, .ref y10, .int 0, .ref y12, .ref y13, .ref y14, .ref y15, .int 0, .ref y17, .ref y18, .ref y19])), (y3, .inl (k 0, 10, .inl fy3)), (y4, .inl (k 0, 10, .inl fy4)), (y5, .inl (k 0, 10, .inl fy5)), (y6, .inl (k 0, 10, .inl fy6)), (y9, .inl (k 0, 4, .inl fy9)), (y10, .inl (k 0, 4, .inl fy10)), (y12, .inl (k 0, 6, .inl fy12)), (y13, .inl (k 0, 6, .inl fy13)), (y14, .inl (k 0, 6, .inl fy14)), (y15, .inl (k 0, 6, .inl fy15)), (y17, .inl (k 0, 2, .inl fy17)), (y18, .inl (k 0, 2, .inl fy18)), (y19, .inr (0, [.int 0, .ref yk1, .ref yk2, .ref yk3])), (yk1, .inl (k 0, 40, .inl fyk1)), (yk2, .inl (k 0, 40, .inl fyk2)), (yk3, .inl (k 0, 40, .inl fyk3))] H := hP
  have hD : va_D A [(x, .inr (10, [.int 0, .int 0, .int 0, .ref x3, .ref x4, .ref x5, .ref x6, .int 0, .int 0, .ref x9, .ref x10, .int 0, .ref x12, .ref x13, .ref x14, .ref x15, .int 0, .ref x17, .ref x18, .ref x19])), (x3, .inl (k 0, 10, .inl (va_cpy fy3 fx3 0 0 10))), (x4, .inl (k 0, 10, .inl (va_cpy fy4 fx4 0 0 10))), (x5, .inl (k 0, 10, .inl fx5)), (x6, .inl (k 0, 10, .inl fx6)), (x9, .inl (k 0, 4, .inl fx9)), (x10, .inl (k 0, 4, .inl fx10)), (x12, .inl (k 0, 6, .inl fx12)), (x13, .inl (k 0, 6, .inl fx13)), (x14, .inl (k 0, 6, .inl fx14)), (x15, .inl (k 0, 6, .inl fx15)), (x17, .inl (k 0, 2, .inl fx17)), (x18, .inl (k 0, 2, .inl fx18)), (x19, .inr (0, [.int 0, .ref xk1, .ref xk2, .ref xk3])), (xk1, .inl (k 0, 40, .inl fxk1)), (xk2, .inl (k 0, 40, .inl fxk2)), (xk3, .inl (k 0, 40, .inl fxk3)), (y, .inr (10, [.int 0, .int 0, .int 0, .ref y3, .ref y4, .ref y5, .ref y6, .int 0, .int 0, .ref y9, .ref y10, .int 0, .ref y12, .ref y13, .ref y14, .ref y15, .int 0, .ref y17, .ref y18, .ref y19])), (y3, .inl (k 0, 10, .inl fy3)), (y4, .inl (k 0, 10, .inl fy4)), (y5, .inl (k 0, 10, .inl fy5)), (y6, .inl (k 0, 10, .inl fy6)), (y9, .inl (k 0, 4, .inl fy9)), (y10, .inl (k 0, 4, .inl fy10)), (y12, .inl (k 0, 6, .inl fy12)), (y13, .inl (k 0, 6, .inl fy13)), (y14, .inl (k 0, 6, .inl fy14)), (y15, .inl (k 0, 6, .inl fy15)), (y17, .inl (k 0, 2, .inl fy17)), (y18, .inl (k 0, 2, .inl fy18)), (y19, .inr (0, [.int 0, .ref yk1, .ref yk2, .ref yk3])), (yk1, .inl (k 0, 40, .inl fyk1)), (yk2, .inl (k 0, 40, .inl fyk2)), (yk3, .inl (k 0, 40, .inl fyk3))] := hD
  refine lv_aload_n hx hb dX10_become_54 rfl (lv_at hl 1 rfl) ?_
  refine va_get (D := D) (ci := 10) (v := .ref y5) (C := RX10) (T := TX10) (N := 20) hx hb hts iT_X10 hown hK hP 17 rfl rfl 5 (by decide) (hts _ tw_1_93) (fun _ h9 => h9) rfl dX10_become_55 ?_
  refine lv_iconst (v := 0) hx hb dX10_become_58 (by decide) ?_
  refine lv_aload_n hx hb dX10_become_59 rfl (lv_at hl 0 rfl) ?_
  refine va_get (D := D) (ci := 10) (v := .ref x5) (C := RX10) (T := TX10) (N := 20) hx hb hts iT_X10 hown hK hP 0 rfl rfl 5 (by decide) (hts _ tw_1_93) (fun _ h9 => h9) rfl dX10_become_60 ?_
  refine lv_iconst (v := 0) hx hb dX10_become_63 (by decide) ?_
  refine lv_bipush (v := 10) hx hb dX10_become_64 (by decide) ?_
  refine va_copyi (ty := .int) hx hb (by rw [hml]; exact hl.1.symm) hown (hts _ tw_6_2) (hts _ tw_4_178) (hts _ tw_4_177) (hts _ tw_1_21) hK hP hD hS 20 3 0 0 rfl rfl rfl rfl rfl (by decide) (by decide) (by decide) (by decide) (by decide) (fun _ _ => rfl) (Nat.le_of_ble_eq_true rfl) (Nat.le_of_ble_eq_true rfl) dX10_become_66 (fun H locs hP hD hS => ?_)
  have hP : va_P D vwCl [(x, .inr (10, [.int 0, .int 0, .int 0, .ref x3, .ref x4, .ref x5, .ref x6, .int 0, .int 0, .ref x9, .ref x10, .int 0, .ref x12, .ref x13, .ref x14, .ref x15, .int 0, .ref x17, .ref x18, .ref x19])), (x3, .inl (k 0, 10, .inl (va_cpy fy3 fx3 0 0 10))), (x4, .inl (k 0, 10, .inl (va_cpy fy4 fx4 0 0 10))), (x5, .inl (k 0, 10, .inl (va_cpy fy5 fx5 0 0 10))), (x6, .inl (k 0, 10, .inl fx6)), (x9, .inl (k 0, 4, .inl fx9)), (x10, .inl (k 0, 4, .inl fx10)), (x12, .inl (k 0, 6, .inl fx12)), (x13, .inl (k 0, 6, .inl fx13)), (x14, .inl (k 0, 6, .inl fx14)), (x15, .inl (k 0, 6, .inl fx15)), (x17, .inl (k 0, 2, .inl fx17)), (x18, .inl (k 0, 2, .inl fx18)), (x19, .inr (0, [.int 0, .ref xk1, .ref xk2, .ref xk3])), (xk1, .inl (k 0, 40, .inl fxk1)), (xk2, .inl (k 0, 40, .inl fxk2)), (xk3, .inl (k 0, 40, .inl fxk3)), (y, .inr (10, [.int 0, .int 0, .int 0, .ref y3, .ref y4, .ref y5, .ref y6, .int 0, .int 0, .ref y9, .ref y10, .int 0, .ref y12, .ref y13, .ref y14, .ref y15, .int 0, .ref y17, .ref y18, .ref y19])), (y3, .inl (k 0, 10, .inl fy3)), (y4, .inl (k 0, 10, .inl fy4)), (y5, .inl (k 0, 10, .inl fy5)), (y6, .inl (k 0, 10, .inl fy6)), (y9, .inl (k 0, 4, .inl fy9)), (y10, .inl (k 0, 4, .inl fy10)), (y12, .inl (k 0, 6, .inl fy12)), (y13, .inl (k 0, 6, .inl fy13)), (y14, .inl (k 0, 6, .inl fy14)), (y15, .inl (k 0, 6, .inl fy15)), (y17, .inl (k 0, 2, .inl fy17)), (y18, .inl (k 0, 2, .inl fy18)), (y19, .inr (0, [.int 0, .ref yk1, .ref yk2, .ref yk3])), (yk1, .inl (k 0, 40, .inl fyk1)), (yk2, .inl (k 0, 40, .inl fyk2)), (yk3, .inl (k 0, 40, .inl fyk3))] H := hP
  have hD : va_D A [(x, .inr (10, [.int 0, .int 0, .int 0, .ref x3, .ref x4, .ref x5, .ref x6, .int 0, .int 0, .ref x9, .ref x10, .int 0, .ref x12, .ref x13, .ref x14, .ref x15, .int 0, .ref x17, .ref x18, .ref x19])), (x3, .inl (k 0, 10, .inl (va_cpy fy3 fx3 0 0 10))), (x4, .inl (k 0, 10, .inl (va_cpy fy4 fx4 0 0 10))), (x5, .inl (k 0, 10, .inl (va_cpy fy5 fx5 0 0 10))), (x6, .inl (k 0, 10, .inl fx6)), (x9, .inl (k 0, 4, .inl fx9)), (x10, .inl (k 0, 4, .inl fx10)), (x12, .inl (k 0, 6, .inl fx12)), (x13, .inl (k 0, 6, .inl fx13)), (x14, .inl (k 0, 6, .inl fx14)), (x15, .inl (k 0, 6, .inl fx15)), (x17, .inl (k 0, 2, .inl fx17)), (x18, .inl (k 0, 2, .inl fx18)), (x19, .inr (0, [.int 0, .ref xk1, .ref xk2, .ref xk3])), (xk1, .inl (k 0, 40, .inl fxk1)), (xk2, .inl (k 0, 40, .inl fxk2)), (xk3, .inl (k 0, 40, .inl fxk3)), (y, .inr (10, [.int 0, .int 0, .int 0, .ref y3, .ref y4, .ref y5, .ref y6, .int 0, .int 0, .ref y9, .ref y10, .int 0, .ref y12, .ref y13, .ref y14, .ref y15, .int 0, .ref y17, .ref y18, .ref y19])), (y3, .inl (k 0, 10, .inl fy3)), (y4, .inl (k 0, 10, .inl fy4)), (y5, .inl (k 0, 10, .inl fy5)), (y6, .inl (k 0, 10, .inl fy6)), (y9, .inl (k 0, 4, .inl fy9)), (y10, .inl (k 0, 4, .inl fy10)), (y12, .inl (k 0, 6, .inl fy12)), (y13, .inl (k 0, 6, .inl fy13)), (y14, .inl (k 0, 6, .inl fy14)), (y15, .inl (k 0, 6, .inl fy15)), (y17, .inl (k 0, 2, .inl fy17)), (y18, .inl (k 0, 2, .inl fy18)), (y19, .inr (0, [.int 0, .ref yk1, .ref yk2, .ref yk3])), (yk1, .inl (k 0, 40, .inl fyk1)), (yk2, .inl (k 0, 40, .inl fyk2)), (yk3, .inl (k 0, 40, .inl fyk3))] := hD
  refine lv_aload_n hx hb dX10_become_69 rfl (lv_at hl 1 rfl) ?_
  refine va_get (D := D) (ci := 10) (v := .ref y6) (C := RX10) (T := TX10) (N := 20) hx hb hts iT_X10 hown hK hP 17 rfl rfl 6 (by decide) (hts _ tw_1_97) (fun _ h9 => h9) rfl dX10_become_70 ?_
  refine lv_iconst (v := 0) hx hb dX10_become_73 (by decide) ?_
  refine lv_aload_n hx hb dX10_become_74 rfl (lv_at hl 0 rfl) ?_
  refine va_get (D := D) (ci := 10) (v := .ref x6) (C := RX10) (T := TX10) (N := 20) hx hb hts iT_X10 hown hK hP 0 rfl rfl 6 (by decide) (hts _ tw_1_97) (fun _ h9 => h9) rfl dX10_become_75 ?_
  refine lv_iconst (v := 0) hx hb dX10_become_78 (by decide) ?_
  refine lv_bipush (v := 10) hx hb dX10_become_79 (by decide) ?_
  refine va_copyi (ty := .int) hx hb (by rw [hml]; exact hl.1.symm) hown (hts _ tw_6_2) (hts _ tw_4_178) (hts _ tw_4_177) (hts _ tw_1_21) hK hP hD hS 21 4 0 0 rfl rfl rfl rfl rfl (by decide) (by decide) (by decide) (by decide) (by decide) (fun _ _ => rfl) (Nat.le_of_ble_eq_true rfl) (Nat.le_of_ble_eq_true rfl) dX10_become_81 (fun H locs hP hD hS => ?_)
  have hP : va_P D vwCl [(x, .inr (10, [.int 0, .int 0, .int 0, .ref x3, .ref x4, .ref x5, .ref x6, .int 0, .int 0, .ref x9, .ref x10, .int 0, .ref x12, .ref x13, .ref x14, .ref x15, .int 0, .ref x17, .ref x18, .ref x19])), (x3, .inl (k 0, 10, .inl (va_cpy fy3 fx3 0 0 10))), (x4, .inl (k 0, 10, .inl (va_cpy fy4 fx4 0 0 10))), (x5, .inl (k 0, 10, .inl (va_cpy fy5 fx5 0 0 10))), (x6, .inl (k 0, 10, .inl (va_cpy fy6 fx6 0 0 10))), (x9, .inl (k 0, 4, .inl fx9)), (x10, .inl (k 0, 4, .inl fx10)), (x12, .inl (k 0, 6, .inl fx12)), (x13, .inl (k 0, 6, .inl fx13)), (x14, .inl (k 0, 6, .inl fx14)), (x15, .inl (k 0, 6, .inl fx15)), (x17, .inl (k 0, 2, .inl fx17)), (x18, .inl (k 0, 2, .inl fx18)), (x19, .inr (0, [.int 0, .ref xk1, .ref xk2, .ref xk3])), (xk1, .inl (k 0, 40, .inl fxk1)), (xk2, .inl (k 0, 40, .inl fxk2)), (xk3, .inl (k 0, 40, .inl fxk3)), (y, .inr (10, [.int 0, .int 0, .int 0, .ref y3, .ref y4, .ref y5, .ref y6, .int 0, .int 0, .ref y9, .ref y10, .int 0, .ref y12, .ref y13, .ref y14, .ref y15, .int 0, .ref y17, .ref y18, .ref y19])), (y3, .inl (k 0, 10, .inl fy3)), (y4, .inl (k 0, 10, .inl fy4)), (y5, .inl (k 0, 10, .inl fy5)), (y6, .inl (k 0, 10, .inl fy6)), (y9, .inl (k 0, 4, .inl fy9)), (y10, .inl (k 0, 4, .inl fy10)), (y12, .inl (k 0, 6, .inl fy12)), (y13, .inl (k 0, 6, .inl fy13)), (y14, .inl (k 0, 6, .inl fy14)), (y15, .inl (k 0, 6, .inl fy15)), (y17, .inl (k 0, 2, .inl fy17)), (y18, .inl (k 0, 2, .inl fy18)), (y19, .inr (0, [.int 0, .ref yk1, .ref yk2, .ref yk3])), (yk1, .inl (k 0, 40, .inl fyk1)), (yk2, .inl (k 0, 40, .inl fyk2)), (yk3, .inl (k 0, 40, .inl fyk3))] H := hP
  have hD : va_D A [(x, .inr (10, [.int 0, .int 0, .int 0, .ref x3, .ref x4, .ref x5, .ref x6, .int 0, .int 0, .ref x9, .ref x10, .int 0, .ref x12, .ref x13, .ref x14, .ref x15, .int 0, .ref x17, .ref x18, .ref x19])), (x3, .inl (k 0, 10, .inl (va_cpy fy3 fx3 0 0 10))), (x4, .inl (k 0, 10, .inl (va_cpy fy4 fx4 0 0 10))), (x5, .inl (k 0, 10, .inl (va_cpy fy5 fx5 0 0 10))), (x6, .inl (k 0, 10, .inl (va_cpy fy6 fx6 0 0 10))), (x9, .inl (k 0, 4, .inl fx9)), (x10, .inl (k 0, 4, .inl fx10)), (x12, .inl (k 0, 6, .inl fx12)), (x13, .inl (k 0, 6, .inl fx13)), (x14, .inl (k 0, 6, .inl fx14)), (x15, .inl (k 0, 6, .inl fx15)), (x17, .inl (k 0, 2, .inl fx17)), (x18, .inl (k 0, 2, .inl fx18)), (x19, .inr (0, [.int 0, .ref xk1, .ref xk2, .ref xk3])), (xk1, .inl (k 0, 40, .inl fxk1)), (xk2, .inl (k 0, 40, .inl fxk2)), (xk3, .inl (k 0, 40, .inl fxk3)), (y, .inr (10, [.int 0, .int 0, .int 0, .ref y3, .ref y4, .ref y5, .ref y6, .int 0, .int 0, .ref y9, .ref y10, .int 0, .ref y12, .ref y13, .ref y14, .ref y15, .int 0, .ref y17, .ref y18, .ref y19])), (y3, .inl (k 0, 10, .inl fy3)), (y4, .inl (k 0, 10, .inl fy4)), (y5, .inl (k 0, 10, .inl fy5)), (y6, .inl (k 0, 10, .inl fy6)), (y9, .inl (k 0, 4, .inl fy9)), (y10, .inl (k 0, 4, .inl fy10)), (y12, .inl (k 0, 6, .inl fy12)), (y13, .inl (k 0, 6, .inl fy13)), (y14, .inl (k 0, 6, .inl fy14)), (y15, .inl (k 0, 6, .inl fy15)), (y17, .inl (k 0, 2, .inl fy17)), (y18, .inl (k 0, 2, .inl fy18)), (y19, .inr (0, [.int 0, .ref yk1, .ref yk2, .ref yk3])), (yk1, .inl (k 0, 40, .inl fyk1)), (yk2, .inl (k 0, 40, .inl fyk2)), (yk3, .inl (k 0, 40, .inl fyk3))] := hD
  refine lv_aload_n hx hb dX10_become_84 rfl (lv_at hl 0 rfl) ?_
  refine lv_aload_n hx hb dX10_become_85 rfl (lv_at hl 1 rfl) ?_
  refine va_get (D := D) (ci := 10) (v := .int 0) (C := RX10) (T := TX10) (N := 20) hx hb hts iT_X10 hown hK hP 17 rfl rfl 7 (by decide) (hts _ tw_1_101) (fun _ h9 => h9) rfl dX10_become_86 ?_
  refine va_put (D := D) (ci := 10) (v := .int 0) (ty := tyX10 7) (C := RX10) (T := TX10) (N := 20) hx hb hts iT_X10 tyX10 tyX10_ok nmX10 hown hK hP hD hS 0 rfl rfl 7 (by decide) (hts _ tw_1_101) (fun _ h9 => h9) rfl (tyX10_ok 7 (by decide)) rfl rfl (Nat.le_of_ble_eq_true rfl) dX10_become_89 (fun H locs hP hD hS => ?_)
  have hP : va_P D vwCl [(x, .inr (10, [.int 0, .int 0, .int 0, .ref x3, .ref x4, .ref x5, .ref x6, .int 0, .int 0, .ref x9, .ref x10, .int 0, .ref x12, .ref x13, .ref x14, .ref x15, .int 0, .ref x17, .ref x18, .ref x19])), (x3, .inl (k 0, 10, .inl (va_cpy fy3 fx3 0 0 10))), (x4, .inl (k 0, 10, .inl (va_cpy fy4 fx4 0 0 10))), (x5, .inl (k 0, 10, .inl (va_cpy fy5 fx5 0 0 10))), (x6, .inl (k 0, 10, .inl (va_cpy fy6 fx6 0 0 10))), (x9, .inl (k 0, 4, .inl fx9)), (x10, .inl (k 0, 4, .inl fx10)), (x12, .inl (k 0, 6, .inl fx12)), (x13, .inl (k 0, 6, .inl fx13)), (x14, .inl (k 0, 6, .inl fx14)), (x15, .inl (k 0, 6, .inl fx15)), (x17, .inl (k 0, 2, .inl fx17)), (x18, .inl (k 0, 2, .inl fx18)), (x19, .inr (0, [.int 0, .ref xk1, .ref xk2, .ref xk3])), (xk1, .inl (k 0, 40, .inl fxk1)), (xk2, .inl (k 0, 40, .inl fxk2)), (xk3, .inl (k 0, 40, .inl fxk3)), (y, .inr (10, [.int 0, .int 0, .int 0, .ref y3, .ref y4, .ref y5, .ref y6, .int 0, .int 0, .ref y9, .ref y10, .int 0, .ref y12, .ref y13, .ref y14, .ref y15, .int 0, .ref y17, .ref y18, .ref y19])), (y3, .inl (k 0, 10, .inl fy3)), (y4, .inl (k 0, 10, .inl fy4)), (y5, .inl (k 0, 10, .inl fy5)), (y6, .inl (k 0, 10, .inl fy6)), (y9, .inl (k 0, 4, .inl fy9)), (y10, .inl (k 0, 4, .inl fy10)), (y12, .inl (k 0, 6, .inl fy12)), (y13, .inl (k 0, 6, .inl fy13)), (y14, .inl (k 0, 6, .inl fy14)), (y15, .inl (k 0, 6, .inl fy15)), (y17, .inl (k 0, 2, .inl fy17)), (y18, .inl (k 0, 2, .inl fy18)), (y19, .inr (0, [.int 0, .ref yk1, .ref yk2, .ref yk3])), (yk1, .inl (k 0, 40, .inl fyk1)), (yk2, .inl (k 0, 40, .inl fyk2)), (yk3, .inl (k 0, 40, .inl fyk3))] H := hP
  have hD : va_D A [(x, .inr (10, [.int 0, .int 0, .int 0, .ref x3, .ref x4, .ref x5, .ref x6, .int 0, .int 0, .ref x9, .ref x10, .int 0, .ref x12, .ref x13, .ref x14, .ref x15, .int 0, .ref x17, .ref x18, .ref x19])), (x3, .inl (k 0, 10, .inl (va_cpy fy3 fx3 0 0 10))), (x4, .inl (k 0, 10, .inl (va_cpy fy4 fx4 0 0 10))), (x5, .inl (k 0, 10, .inl (va_cpy fy5 fx5 0 0 10))), (x6, .inl (k 0, 10, .inl (va_cpy fy6 fx6 0 0 10))), (x9, .inl (k 0, 4, .inl fx9)), (x10, .inl (k 0, 4, .inl fx10)), (x12, .inl (k 0, 6, .inl fx12)), (x13, .inl (k 0, 6, .inl fx13)), (x14, .inl (k 0, 6, .inl fx14)), (x15, .inl (k 0, 6, .inl fx15)), (x17, .inl (k 0, 2, .inl fx17)), (x18, .inl (k 0, 2, .inl fx18)), (x19, .inr (0, [.int 0, .ref xk1, .ref xk2, .ref xk3])), (xk1, .inl (k 0, 40, .inl fxk1)), (xk2, .inl (k 0, 40, .inl fxk2)), (xk3, .inl (k 0, 40, .inl fxk3)), (y, .inr (10, [.int 0, .int 0, .int 0, .ref y3, .ref y4, .ref y5, .ref y6, .int 0, .int 0, .ref y9, .ref y10, .int 0, .ref y12, .ref y13, .ref y14, .ref y15, .int 0, .ref y17, .ref y18, .ref y19])), (y3, .inl (k 0, 10, .inl fy3)), (y4, .inl (k 0, 10, .inl fy4)), (y5, .inl (k 0, 10, .inl fy5)), (y6, .inl (k 0, 10, .inl fy6)), (y9, .inl (k 0, 4, .inl fy9)), (y10, .inl (k 0, 4, .inl fy10)), (y12, .inl (k 0, 6, .inl fy12)), (y13, .inl (k 0, 6, .inl fy13)), (y14, .inl (k 0, 6, .inl fy14)), (y15, .inl (k 0, 6, .inl fy15)), (y17, .inl (k 0, 2, .inl fy17)), (y18, .inl (k 0, 2, .inl fy18)), (y19, .inr (0, [.int 0, .ref yk1, .ref yk2, .ref yk3])), (yk1, .inl (k 0, 40, .inl fyk1)), (yk2, .inl (k 0, 40, .inl fyk2)), (yk3, .inl (k 0, 40, .inl fyk3))] := hD
  refine lv_aload_n hx hb dX10_become_92 rfl (lv_at hl 0 rfl) ?_
  refine lv_aload_n hx hb dX10_become_93 rfl (lv_at hl 1 rfl) ?_
  refine va_get (D := D) (ci := 10) (v := .int 0) (C := RX10) (T := TX10) (N := 20) hx hb hts iT_X10 hown hK hP 17 rfl rfl 8 (by decide) (hts _ tw_1_103) (fun _ h9 => h9) rfl dX10_become_94 ?_
  refine va_put (D := D) (ci := 10) (v := .int 0) (ty := tyX10 8) (C := RX10) (T := TX10) (N := 20) hx hb hts iT_X10 tyX10 tyX10_ok nmX10 hown hK hP hD hS 0 rfl rfl 8 (by decide) (hts _ tw_1_103) (fun _ h9 => h9) rfl (tyX10_ok 8 (by decide)) rfl rfl (Nat.le_of_ble_eq_true rfl) dX10_become_97 (fun H locs hP hD hS => ?_)
  have hP : va_P D vwCl [(x, .inr (10, [.int 0, .int 0, .int 0, .ref x3, .ref x4, .ref x5, .ref x6, .int 0, .int 0, .ref x9, .ref x10, .int 0, .ref x12, .ref x13, .ref x14, .ref x15, .int 0, .ref x17, .ref x18, .ref x19])), (x3, .inl (k 0, 10, .inl (va_cpy fy3 fx3 0 0 10))), (x4, .inl (k 0, 10, .inl (va_cpy fy4 fx4 0 0 10))), (x5, .inl (k 0, 10, .inl (va_cpy fy5 fx5 0 0 10))), (x6, .inl (k 0, 10, .inl (va_cpy fy6 fx6 0 0 10))), (x9, .inl (k 0, 4, .inl fx9)), (x10, .inl (k 0, 4, .inl fx10)), (x12, .inl (k 0, 6, .inl fx12)), (x13, .inl (k 0, 6, .inl fx13)), (x14, .inl (k 0, 6, .inl fx14)), (x15, .inl (k 0, 6, .inl fx15)), (x17, .inl (k 0, 2, .inl fx17)), (x18, .inl (k 0, 2, .inl fx18)), (x19, .inr (0, [.int 0, .ref xk1, .ref xk2, .ref xk3])), (xk1, .inl (k 0, 40, .inl fxk1)), (xk2, .inl (k 0, 40, .inl fxk2)), (xk3, .inl (k 0, 40, .inl fxk3)), (y, .inr (10, [.int 0, .int 0, .int 0, .ref y3, .ref y4, .ref y5, .ref y6, .int 0, .int 0, .ref y9, .ref y10, .int 0, .ref y12, .ref y13, .ref y14, .ref y15, .int 0, .ref y17, .ref y18, .ref y19])), (y3, .inl (k 0, 10, .inl fy3)), (y4, .inl (k 0, 10, .inl fy4)), (y5, .inl (k 0, 10, .inl fy5)), (y6, .inl (k 0, 10, .inl fy6)), (y9, .inl (k 0, 4, .inl fy9)), (y10, .inl (k 0, 4, .inl fy10)), (y12, .inl (k 0, 6, .inl fy12)), (y13, .inl (k 0, 6, .inl fy13)), (y14, .inl (k 0, 6, .inl fy14)), (y15, .inl (k 0, 6, .inl fy15)), (y17, .inl (k 0, 2, .inl fy17)), (y18, .inl (k 0, 2, .inl fy18)), (y19, .inr (0, [.int 0, .ref yk1, .ref yk2, .ref yk3])), (yk1, .inl (k 0, 40, .inl fyk1)), (yk2, .inl (k 0, 40, .inl fyk2)), (yk3, .inl (k 0, 40, .inl fyk3))] H := hP
  have hD : va_D A [(x, .inr (10, [.int 0, .int 0, .int 0, .ref x3, .ref x4, .ref x5, .ref x6, .int 0, .int 0, .ref x9, .ref x10, .int 0, .ref x12, .ref x13, .ref x14, .ref x15, .int 0, .ref x17, .ref x18, .ref x19])), (x3, .inl (k 0, 10, .inl (va_cpy fy3 fx3 0 0 10))), (x4, .inl (k 0, 10, .inl (va_cpy fy4 fx4 0 0 10))), (x5, .inl (k 0, 10, .inl (va_cpy fy5 fx5 0 0 10))), (x6, .inl (k 0, 10, .inl (va_cpy fy6 fx6 0 0 10))), (x9, .inl (k 0, 4, .inl fx9)), (x10, .inl (k 0, 4, .inl fx10)), (x12, .inl (k 0, 6, .inl fx12)), (x13, .inl (k 0, 6, .inl fx13)), (x14, .inl (k 0, 6, .inl fx14)), (x15, .inl (k 0, 6, .inl fx15)), (x17, .inl (k 0, 2, .inl fx17)), (x18, .inl (k 0, 2, .inl fx18)), (x19, .inr (0, [.int 0, .ref xk1, .ref xk2, .ref xk3])), (xk1, .inl (k 0, 40, .inl fxk1)), (xk2, .inl (k 0, 40, .inl fxk2)), (xk3, .inl (k 0, 40, .inl fxk3)), (y, .inr (10, [.int 0, .int 0, .int 0, .ref y3, .ref y4, .ref y5, .ref y6, .int 0, .int 0, .ref y9, .ref y10, .int 0, .ref y12, .ref y13, .ref y14, .ref y15, .int 0, .ref y17, .ref y18, .ref y19])), (y3, .inl (k 0, 10, .inl fy3)), (y4, .inl (k 0, 10, .inl fy4)), (y5, .inl (k 0, 10, .inl fy5)), (y6, .inl (k 0, 10, .inl fy6)), (y9, .inl (k 0, 4, .inl fy9)), (y10, .inl (k 0, 4, .inl fy10)), (y12, .inl (k 0, 6, .inl fy12)), (y13, .inl (k 0, 6, .inl fy13)), (y14, .inl (k 0, 6, .inl fy14)), (y15, .inl (k 0, 6, .inl fy15)), (y17, .inl (k 0, 2, .inl fy17)), (y18, .inl (k 0, 2, .inl fy18)), (y19, .inr (0, [.int 0, .ref yk1, .ref yk2, .ref yk3])), (yk1, .inl (k 0, 40, .inl fyk1)), (yk2, .inl (k 0, 40, .inl fyk2)), (yk3, .inl (k 0, 40, .inl fyk3))] := hD
  refine lv_aload_n hx hb dX10_become_100 rfl (lv_at hl 1 rfl) ?_
  refine va_get (D := D) (ci := 10) (v := .ref y9) (C := RX10) (T := TX10) (N := 20) hx hb hts iT_X10 hown hK hP 17 rfl rfl 9 (by decide) (hts _ tw_1_109) (fun _ h9 => h9) rfl dX10_become_101 ?_
  refine lv_iconst (v := 0) hx hb dX10_become_104 (by decide) ?_
  refine lv_aload_n hx hb dX10_become_105 rfl (lv_at hl 0 rfl) ?_
  refine va_get (D := D) (ci := 10) (v := .ref x9) (C := RX10) (T := TX10) (N := 20) hx hb hts iT_X10 hown hK hP 0 rfl rfl 9 (by decide) (hts _ tw_1_109) (fun _ h9 => h9) rfl dX10_become_106 ?_
  refine lv_iconst (v := 0) hx hb dX10_become_109 (by decide) ?_
  refine lv_iconst (v := 4) hx hb dX10_become_110 (by decide) ?_
  refine va_copyi (ty := .int) hx hb (by rw [hml]; exact hl.1.symm) hown (hts _ tw_6_2) (hts _ tw_4_178) (hts _ tw_4_177) (hts _ tw_1_21) hK hP hD hS 22 5 0 0 rfl rfl rfl rfl rfl (by decide) (by decide) (by decide) (by decide) (by decide) (fun _ _ => rfl) (Nat.le_of_ble_eq_true rfl) (Nat.le_of_ble_eq_true rfl) dX10_become_111 (fun H locs hP hD hS => ?_)
  have hP : va_P D vwCl [(x, .inr (10, [.int 0, .int 0, .int 0, .ref x3, .ref x4, .ref x5, .ref x6, .int 0, .int 0, .ref x9, .ref x10, .int 0, .ref x12, .ref x13, .ref x14, .ref x15, .int 0, .ref x17, .ref x18, .ref x19])), (x3, .inl (k 0, 10, .inl (va_cpy fy3 fx3 0 0 10))), (x4, .inl (k 0, 10, .inl (va_cpy fy4 fx4 0 0 10))), (x5, .inl (k 0, 10, .inl (va_cpy fy5 fx5 0 0 10))), (x6, .inl (k 0, 10, .inl (va_cpy fy6 fx6 0 0 10))), (x9, .inl (k 0, 4, .inl (va_cpy fy9 fx9 0 0 4))), (x10, .inl (k 0, 4, .inl fx10)), (x12, .inl (k 0, 6, .inl fx12)), (x13, .inl (k 0, 6, .inl fx13)), (x14, .inl (k 0, 6, .inl fx14)), (x15, .inl (k 0, 6, .inl fx15)), (x17, .inl (k 0, 2, .inl fx17)), (x18, .inl (k 0, 2, .inl fx18)), (x19, .inr (0, [.int 0, .ref xk1, .ref xk2, .ref xk3])), (xk1, .inl (k 0, 40, .inl fxk1)), (xk2, .inl (k 0, 40, .inl fxk2)), (xk3, .inl (k 0, 40, .inl fxk3)), (y, .inr (10, [.int 0, .int 0, .int 0, .ref y3, .ref y4, .ref y5, .ref y6, .int 0, .int 0, .ref y9, .ref y10, .int 0, .ref y12, .ref y13, .ref y14, .ref y15, .int 0, .ref y17, .ref y18, .ref y19])), (y3, .inl (k 0, 10, .inl fy3)), (y4, .inl (k 0, 10, .inl fy4)), (y5, .inl (k 0, 10, .inl fy5)), (y6, .inl (k 0, 10, .inl fy6)), (y9, .inl (k 0, 4, .inl fy9)), (y10, .inl (k 0, 4, .inl fy10)), (y12, .inl (k 0, 6, .inl fy12)), (y13, .inl (k 0, 6, .inl fy13)), (y14, .inl (k 0, 6, .inl fy14)), (y15, .inl (k 0, 6, .inl fy15)), (y17, .inl (k 0, 2, .inl fy17)), (y18, .inl (k 0, 2, .inl fy18)), (y19, .inr (0, [.int 0, .ref yk1, .ref yk2, .ref yk3])), (yk1, .inl (k 0, 40, .inl fyk1)), (yk2, .inl (k 0, 40, .inl fyk2)), (yk3, .inl (k 0, 40, .inl fyk3))] H := hP
  have hD : va_D A [(x, .inr (10, [.int 0, .int 0, .int 0, .ref x3, .ref x4, .ref x5, .ref x6, .int 0, .int 0, .ref x9, .ref x10, .int 0, .ref x12, .ref x13, .ref x14, .ref x15, .int 0, .ref x17, .ref x18, .ref x19])), (x3, .inl (k 0, 10, .inl (va_cpy fy3 fx3 0 0 10))), (x4, .inl (k 0, 10, .inl (va_cpy fy4 fx4 0 0 10))), (x5, .inl (k 0, 10, .inl (va_cpy fy5 fx5 0 0 10))), (x6, .inl (k 0, 10, .inl (va_cpy fy6 fx6 0 0 10))), (x9, .inl (k 0, 4, .inl (va_cpy fy9 fx9 0 0 4))), (x10, .inl (k 0, 4, .inl fx10)), (x12, .inl (k 0, 6, .inl fx12)), (x13, .inl (k 0, 6, .inl fx13)), (x14, .inl (k 0, 6, .inl fx14)), (x15, .inl (k 0, 6, .inl fx15)), (x17, .inl (k 0, 2, .inl fx17)), (x18, .inl (k 0, 2, .inl fx18)), (x19, .inr (0, [.int 0, .ref xk1, .ref xk2, .ref xk3])), (xk1, .inl (k 0, 40, .inl fxk1)), (xk2, .inl (k 0, 40, .inl fxk2)), (xk3, .inl (k 0, 40, .inl fxk3)), (y, .inr (10, [.int 0, .int 0, .int 0, .ref y3, .ref y4, .ref y5, .ref y6, .int 0, .int 0, .ref y9, .ref y10, .int 0, .ref y12, .ref y13, .ref y14, .ref y15, .int 0, .ref y17, .ref y18, .ref y19])), (y3, .inl (k 0, 10, .inl fy3)), (y4, .inl (k 0, 10, .inl fy4)), (y5, .inl (k 0, 10, .inl fy5)), (y6, .inl (k 0, 10, .inl fy6)), (y9, .inl (k 0, 4, .inl fy9)), (y10, .inl (k 0, 4, .inl fy10)), (y12, .inl (k 0, 6, .inl fy12)), (y13, .inl (k 0, 6, .inl fy13)), (y14, .inl (k 0, 6, .inl fy14)), (y15, .inl (k 0, 6, .inl fy15)), (y17, .inl (k 0, 2, .inl fy17)), (y18, .inl (k 0, 2, .inl fy18)), (y19, .inr (0, [.int 0, .ref yk1, .ref yk2, .ref yk3])), (yk1, .inl (k 0, 40, .inl fyk1)), (yk2, .inl (k 0, 40, .inl fyk2)), (yk3, .inl (k 0, 40, .inl fyk3))] := hD
  refine lv_aload_n hx hb dX10_become_114 rfl (lv_at hl 1 rfl) ?_
  refine va_get (D := D) (ci := 10) (v := .ref y10) (C := RX10) (T := TX10) (N := 20) hx hb hts iT_X10 hown hK hP 17 rfl rfl 10 (by decide) (hts _ tw_1_114) (fun _ h9 => h9) rfl dX10_become_115 ?_
  refine lv_iconst (v := 0) hx hb dX10_become_118 (by decide) ?_
  refine lv_aload_n hx hb dX10_become_119 rfl (lv_at hl 0 rfl) ?_
  refine va_get (D := D) (ci := 10) (v := .ref x10) (C := RX10) (T := TX10) (N := 20) hx hb hts iT_X10 hown hK hP 0 rfl rfl 10 (by decide) (hts _ tw_1_114) (fun _ h9 => h9) rfl dX10_become_120 ?_
  refine lv_iconst (v := 0) hx hb dX10_become_123 (by decide) ?_
  refine lv_iconst (v := 4) hx hb dX10_become_124 (by decide) ?_
  refine va_copyi (ty := .int) hx hb (by rw [hml]; exact hl.1.symm) hown (hts _ tw_6_2) (hts _ tw_4_178) (hts _ tw_4_177) (hts _ tw_1_21) hK hP hD hS 23 6 0 0 rfl rfl rfl rfl rfl (by decide) (by decide) (by decide) (by decide) (by decide) (fun _ _ => rfl) (Nat.le_of_ble_eq_true rfl) (Nat.le_of_ble_eq_true rfl) dX10_become_125 (fun H locs hP hD hS => ?_)
  have hP : va_P D vwCl [(x, .inr (10, [.int 0, .int 0, .int 0, .ref x3, .ref x4, .ref x5, .ref x6, .int 0, .int 0, .ref x9, .ref x10, .int 0, .ref x12, .ref x13, .ref x14, .ref x15, .int 0, .ref x17, .ref x18, .ref x19])), (x3, .inl (k 0, 10, .inl (va_cpy fy3 fx3 0 0 10))), (x4, .inl (k 0, 10, .inl (va_cpy fy4 fx4 0 0 10))), (x5, .inl (k 0, 10, .inl (va_cpy fy5 fx5 0 0 10))), (x6, .inl (k 0, 10, .inl (va_cpy fy6 fx6 0 0 10))), (x9, .inl (k 0, 4, .inl (va_cpy fy9 fx9 0 0 4))), (x10, .inl (k 0, 4, .inl (va_cpy fy10 fx10 0 0 4))), (x12, .inl (k 0, 6, .inl fx12)), (x13, .inl (k 0, 6, .inl fx13)), (x14, .inl (k 0, 6, .inl fx14)), (x15, .inl (k 0, 6, .inl fx15)), (x17, .inl (k 0, 2, .inl fx17)), (x18, .inl (k 0, 2, .inl fx18)), (x19, .inr (0, [.int 0, .ref xk1, .ref xk2, .ref xk3])), (xk1, .inl (k 0, 40, .inl fxk1)), (xk2, .inl (k 0, 40, .inl fxk2)), (xk3, .inl (k 0, 40, .inl fxk3)), (y, .inr (10, [.int 0, .int 0, .int 0, .ref y3, .ref y4, .ref y5, .ref y6, .int 0, .int 0, .ref y9, .ref y10, .int 0, .ref y12, .ref y13, .ref y14, .ref y15, .int 0, .ref y17, .ref y18, .ref y19])), (y3, .inl (k 0, 10, .inl fy3)), (y4, .inl (k 0, 10, .inl fy4)), (y5, .inl (k 0, 10, .inl fy5)), (y6, .inl (k 0, 10, .inl fy6)), (y9, .inl (k 0, 4, .inl fy9)), (y10, .inl (k 0, 4, .inl fy10)), (y12, .inl (k 0, 6, .inl fy12)), (y13, .inl (k 0, 6, .inl fy13)), (y14, .inl (k 0, 6, .inl fy14)), (y15, .inl (k 0, 6, .inl fy15)), (y17, .inl (k 0, 2, .inl fy17)), (y18, .inl (k 0, 2, .inl fy18)), (y19, .inr (0, [.int 0, .ref yk1, .ref yk2, .ref yk3])), (yk1, .inl (k 0, 40, .inl fyk1)), (yk2, .inl (k 0, 40, .inl fyk2)), (yk3, .inl (k 0, 40, .inl fyk3))] H := hP
  have hD : va_D A [(x, .inr (10, [.int 0, .int 0, .int 0, .ref x3, .ref x4, .ref x5, .ref x6, .int 0, .int 0, .ref x9, .ref x10, .int 0, .ref x12, .ref x13, .ref x14, .ref x15, .int 0, .ref x17, .ref x18, .ref x19])), (x3, .inl (k 0, 10, .inl (va_cpy fy3 fx3 0 0 10))), (x4, .inl (k 0, 10, .inl (va_cpy fy4 fx4 0 0 10))), (x5, .inl (k 0, 10, .inl (va_cpy fy5 fx5 0 0 10))), (x6, .inl (k 0, 10, .inl (va_cpy fy6 fx6 0 0 10))), (x9, .inl (k 0, 4, .inl (va_cpy fy9 fx9 0 0 4))), (x10, .inl (k 0, 4, .inl (va_cpy fy10 fx10 0 0 4))), (x12, .inl (k 0, 6, .inl fx12)), (x13, .inl (k 0, 6, .inl fx13)), (x14, .inl (k 0, 6, .inl fx14)), (x15, .inl (k 0, 6, .inl fx15)), (x17, .inl (k 0, 2, .inl fx17)), (x18, .inl (k 0, 2, .inl fx18)), (x19, .inr (0, [.int 0, .ref xk1, .ref xk2, .ref xk3])), (xk1, .inl (k 0, 40, .inl fxk1)), (xk2, .inl (k 0, 40, .inl fxk2)), (xk3, .inl (k 0, 40, .inl fxk3)), (y, .inr (10, [.int 0, .int 0, .int 0, .ref y3, .ref y4, .ref y5, .ref y6, .int 0, .int 0, .ref y9, .ref y10, .int 0, .ref y12, .ref y13, .ref y14, .ref y15, .int 0, .ref y17, .ref y18, .ref y19])), (y3, .inl (k 0, 10, .inl fy3)), (y4, .inl (k 0, 10, .inl fy4)), (y5, .inl (k 0, 10, .inl fy5)), (y6, .inl (k 0, 10, .inl fy6)), (y9, .inl (k 0, 4, .inl fy9)), (y10, .inl (k 0, 4, .inl fy10)), (y12, .inl (k 0, 6, .inl fy12)), (y13, .inl (k 0, 6, .inl fy13)), (y14, .inl (k 0, 6, .inl fy14)), (y15, .inl (k 0, 6, .inl fy15)), (y17, .inl (k 0, 2, .inl fy17)), (y18, .inl (k 0, 2, .inl fy18)), (y19, .inr (0, [.int 0, .ref yk1, .ref yk2, .ref yk3])), (yk1, .inl (k 0, 40, .inl fyk1)), (yk2, .inl (k 0, 40, .inl fyk2)), (yk3, .inl (k 0, 40, .inl fyk3))] := hD
  refine lv_aload_n hx hb dX10_become_128 rfl (lv_at hl 0 rfl) ?_
  refine lv_aload_n hx hb dX10_become_129 rfl (lv_at hl 1 rfl) ?_
  refine va_get (D := D) (ci := 10) (v := .int 0) (C := RX10) (T := TX10) (N := 20) hx hb hts iT_X10 hown hK hP 17 rfl rfl 11 (by decide) (hts _ tw_1_119) (fun _ h9 => h9) rfl dX10_become_130 ?_
  refine va_put (D := D) (ci := 10) (v := .int 0) (ty := tyX10 11) (C := RX10) (T := TX10) (N := 20) hx hb hts iT_X10 tyX10 tyX10_ok nmX10 hown hK hP hD hS 0 rfl rfl 11 (by decide) (hts _ tw_1_119) (fun _ h9 => h9) rfl (tyX10_ok 11 (by decide)) rfl rfl (Nat.le_of_ble_eq_true rfl) dX10_become_133 (fun H locs hP hD hS => ?_)
  have hP : va_P D vwCl [(x, .inr (10, [.int 0, .int 0, .int 0, .ref x3, .ref x4, .ref x5, .ref x6, .int 0, .int 0, .ref x9, .ref x10, .int 0, .ref x12, .ref x13, .ref x14, .ref x15, .int 0, .ref x17, .ref x18, .ref x19])), (x3, .inl (k 0, 10, .inl (va_cpy fy3 fx3 0 0 10))), (x4, .inl (k 0, 10, .inl (va_cpy fy4 fx4 0 0 10))), (x5, .inl (k 0, 10, .inl (va_cpy fy5 fx5 0 0 10))), (x6, .inl (k 0, 10, .inl (va_cpy fy6 fx6 0 0 10))), (x9, .inl (k 0, 4, .inl (va_cpy fy9 fx9 0 0 4))), (x10, .inl (k 0, 4, .inl (va_cpy fy10 fx10 0 0 4))), (x12, .inl (k 0, 6, .inl fx12)), (x13, .inl (k 0, 6, .inl fx13)), (x14, .inl (k 0, 6, .inl fx14)), (x15, .inl (k 0, 6, .inl fx15)), (x17, .inl (k 0, 2, .inl fx17)), (x18, .inl (k 0, 2, .inl fx18)), (x19, .inr (0, [.int 0, .ref xk1, .ref xk2, .ref xk3])), (xk1, .inl (k 0, 40, .inl fxk1)), (xk2, .inl (k 0, 40, .inl fxk2)), (xk3, .inl (k 0, 40, .inl fxk3)), (y, .inr (10, [.int 0, .int 0, .int 0, .ref y3, .ref y4, .ref y5, .ref y6, .int 0, .int 0, .ref y9, .ref y10, .int 0, .ref y12, .ref y13, .ref y14, .ref y15, .int 0, .ref y17, .ref y18, .ref y19])), (y3, .inl (k 0, 10, .inl fy3)), (y4, .inl (k 0, 10, .inl fy4)), (y5, .inl (k 0, 10, .inl fy5)), (y6, .inl (k 0, 10, .inl fy6)), (y9, .inl (k 0, 4, .inl fy9)), (y10, .inl (k 0, 4, .inl fy10)), (y12, .inl (k 0, 6, .inl fy12)), (y13, .inl (k 0, 6, .inl fy13)), (y14, .inl (k 0, 6, .inl fy14)), (y15, .inl (k 0, 6, .inl fy15)), (y17, .inl (k 0, 2, .inl fy17)), (y18, .inl (k 0, 2, .inl fy18)), (y19, .inr (0, [.int 0, .ref yk1, .ref yk2, .ref yk3])), (yk1, .inl (k 0, 40, .inl fyk1)), (yk2, .inl (k 0, 40, .inl fyk2)), (yk3, .inl (k 0, 40, .inl fyk3))] H := hP
  have hD : va_D A [(x, .inr (10, [.int 0, .int 0, .int 0, .ref x3, .ref x4, .ref x5, .ref x6, .int 0, .int 0, .ref x9, .ref x10, .int 0, .ref x12, .ref x13, .ref x14, .ref x15, .int 0, .ref x17, .ref x18, .ref x19])), (x3, .inl (k 0, 10, .inl (va_cpy fy3 fx3 0 0 10))), (x4, .inl (k 0, 10, .inl (va_cpy fy4 fx4 0 0 10))), (x5, .inl (k 0, 10, .inl (va_cpy fy5 fx5 0 0 10))), (x6, .inl (k 0, 10, .inl (va_cpy fy6 fx6 0 0 10))), (x9, .inl (k 0, 4, .inl (va_cpy fy9 fx9 0 0 4))), (x10, .inl (k 0, 4, .inl (va_cpy fy10 fx10 0 0 4))), (x12, .inl (k 0, 6, .inl fx12)), (x13, .inl (k 0, 6, .inl fx13)), (x14, .inl (k 0, 6, .inl fx14)), (x15, .inl (k 0, 6, .inl fx15)), (x17, .inl (k 0, 2, .inl fx17)), (x18, .inl (k 0, 2, .inl fx18)), (x19, .inr (0, [.int 0, .ref xk1, .ref xk2, .ref xk3])), (xk1, .inl (k 0, 40, .inl fxk1)), (xk2, .inl (k 0, 40, .inl fxk2)), (xk3, .inl (k 0, 40, .inl fxk3)), (y, .inr (10, [.int 0, .int 0, .int 0, .ref y3, .ref y4, .ref y5, .ref y6, .int 0, .int 0, .ref y9, .ref y10, .int 0, .ref y12, .ref y13, .ref y14, .ref y15, .int 0, .ref y17, .ref y18, .ref y19])), (y3, .inl (k 0, 10, .inl fy3)), (y4, .inl (k 0, 10, .inl fy4)), (y5, .inl (k 0, 10, .inl fy5)), (y6, .inl (k 0, 10, .inl fy6)), (y9, .inl (k 0, 4, .inl fy9)), (y10, .inl (k 0, 4, .inl fy10)), (y12, .inl (k 0, 6, .inl fy12)), (y13, .inl (k 0, 6, .inl fy13)), (y14, .inl (k 0, 6, .inl fy14)), (y15, .inl (k 0, 6, .inl fy15)), (y17, .inl (k 0, 2, .inl fy17)), (y18, .inl (k 0, 2, .inl fy18)), (y19, .inr (0, [.int 0, .ref yk1, .ref yk2, .ref yk3])), (yk1, .inl (k 0, 40, .inl fyk1)), (yk2, .inl (k 0, 40, .inl fyk2)), (yk3, .inl (k 0, 40, .inl fyk3))] := hD
  refine lv_aload_n hx hb dX10_become_136 rfl (lv_at hl 1 rfl) ?_
  refine va_get (D := D) (ci := 10) (v := .ref y12) (C := RX10) (T := TX10) (N := 20) hx hb hts iT_X10 hown hK hP 17 rfl rfl 12 (by decide) (hts _ tw_1_125) (fun _ h9 => h9) rfl dX10_become_137 ?_
  refine lv_iconst (v := 0) hx hb dX10_become_140 (by decide) ?_
  refine lv_aload_n hx hb dX10_become_141 rfl (lv_at hl 0 rfl) ?_
  refine va_get (D := D) (ci := 10) (v := .ref x12) (C := RX10) (T := TX10) (N := 20) hx hb hts iT_X10 hown hK hP 0 rfl rfl 12 (by decide) (hts _ tw_1_125) (fun _ h9 => h9) rfl dX10_become_142 ?_
  refine lv_iconst (v := 0) hx hb dX10_become_145 (by decide) ?_
  refine lv_bipush (v := 6) hx hb dX10_become_146 (by decide) ?_
  refine va_copyi (ty := .int) hx hb (by rw [hml]; exact hl.1.symm) hown (hts _ tw_6_2) (hts _ tw_4_178) (hts _ tw_4_177) (hts _ tw_1_21) hK hP hD hS 24 7 0 0 rfl rfl rfl rfl rfl (by decide) (by decide) (by decide) (by decide) (by decide) (fun _ _ => rfl) (Nat.le_of_ble_eq_true rfl) (Nat.le_of_ble_eq_true rfl) dX10_become_148 (fun H locs hP hD hS => ?_)
  have hP : va_P D vwCl [(x, .inr (10, [.int 0, .int 0, .int 0, .ref x3, .ref x4, .ref x5, .ref x6, .int 0, .int 0, .ref x9, .ref x10, .int 0, .ref x12, .ref x13, .ref x14, .ref x15, .int 0, .ref x17, .ref x18, .ref x19])), (x3, .inl (k 0, 10, .inl (va_cpy fy3 fx3 0 0 10))), (x4, .inl (k 0, 10, .inl (va_cpy fy4 fx4 0 0 10))), (x5, .inl (k 0, 10, .inl (va_cpy fy5 fx5 0 0 10))), (x6, .inl (k 0, 10, .inl (va_cpy fy6 fx6 0 0 10))), (x9, .inl (k 0, 4, .inl (va_cpy fy9 fx9 0 0 4))), (x10, .inl (k 0, 4, .inl (va_cpy fy10 fx10 0 0 4))), (x12, .inl (k 0, 6, .inl (va_cpy fy12 fx12 0 0 6))), (x13, .inl (k 0, 6, .inl fx13)), (x14, .inl (k 0, 6, .inl fx14)), (x15, .inl (k 0, 6, .inl fx15)), (x17, .inl (k 0, 2, .inl fx17)), (x18, .inl (k 0, 2, .inl fx18)), (x19, .inr (0, [.int 0, .ref xk1, .ref xk2, .ref xk3])), (xk1, .inl (k 0, 40, .inl fxk1)), (xk2, .inl (k 0, 40, .inl fxk2)), (xk3, .inl (k 0, 40, .inl fxk3)), (y, .inr (10, [.int 0, .int 0, .int 0, .ref y3, .ref y4, .ref y5, .ref y6, .int 0, .int 0, .ref y9, .ref y10, .int 0, .ref y12, .ref y13, .ref y14, .ref y15, .int 0, .ref y17, .ref y18, .ref y19])), (y3, .inl (k 0, 10, .inl fy3)), (y4, .inl (k 0, 10, .inl fy4)), (y5, .inl (k 0, 10, .inl fy5)), (y6, .inl (k 0, 10, .inl fy6)), (y9, .inl (k 0, 4, .inl fy9)), (y10, .inl (k 0, 4, .inl fy10)), (y12, .inl (k 0, 6, .inl fy12)), (y13, .inl (k 0, 6, .inl fy13)), (y14, .inl (k 0, 6, .inl fy14)), (y15, .inl (k 0, 6, .inl fy15)), (y17, .inl (k 0, 2, .inl fy17)), (y18, .inl (k 0, 2, .inl fy18)), (y19, .inr (0, [.int 0, .ref yk1, .ref yk2, .ref yk3])), (yk1, .inl (k 0, 40, .inl fyk1)), (yk2, .inl (k 0, 40, .inl fyk2)), (yk3, .inl (k 0, 40, .inl fyk3))] H := hP
  have hD : va_D A [(x, .inr (10, [.int 0, .int 0, .int 0, .ref x3, .ref x4, .ref x5, .ref x6, .int 0, .int 0, .ref x9, .ref x10, .int 0, .ref x12, .ref x13, .ref x14, .ref x15, .int 0, .ref x17, .ref x18, .ref x19])), (x3, .inl (k 0, 10, .inl (va_cpy fy3 fx3 0 0 10))), (x4, .inl (k 0, 10, .inl (va_cpy fy4 fx4 0 0 10))), (x5, .inl (k 0, 10, .inl (va_cpy fy5 fx5 0 0 10))), (x6, .inl (k 0, 10, .inl (va_cpy fy6 fx6 0 0 10))), (x9, .inl (k 0, 4, .inl (va_cpy fy9 fx9 0 0 4))), (x10, .inl (k 0, 4, .inl (va_cpy fy10 fx10 0 0 4))), (x12, .inl (k 0, 6, .inl (va_cpy fy12 fx12 0 0 6))), (x13, .inl (k 0, 6, .inl fx13)), (x14, .inl (k 0, 6, .inl fx14)), (x15, .inl (k 0, 6, .inl fx15)), (x17, .inl (k 0, 2, .inl fx17)), (x18, .inl (k 0, 2, .inl fx18)), (x19, .inr (0, [.int 0, .ref xk1, .ref xk2, .ref xk3])), (xk1, .inl (k 0, 40, .inl fxk1)), (xk2, .inl (k 0, 40, .inl fxk2)), (xk3, .inl (k 0, 40, .inl fxk3)), (y, .inr (10, [.int 0, .int 0, .int 0, .ref y3, .ref y4, .ref y5, .ref y6, .int 0, .int 0, .ref y9, .ref y10, .int 0, .ref y12, .ref y13, .ref y14, .ref y15, .int 0, .ref y17, .ref y18, .ref y19])), (y3, .inl (k 0, 10, .inl fy3)), (y4, .inl (k 0, 10, .inl fy4)), (y5, .inl (k 0, 10, .inl fy5)), (y6, .inl (k 0, 10, .inl fy6)), (y9, .inl (k 0, 4, .inl fy9)), (y10, .inl (k 0, 4, .inl fy10)), (y12, .inl (k 0, 6, .inl fy12)), (y13, .inl (k 0, 6, .inl fy13)), (y14, .inl (k 0, 6, .inl fy14)), (y15, .inl (k 0, 6, .inl fy15)), (y17, .inl (k 0, 2, .inl fy17)), (y18, .inl (k 0, 2, .inl fy18)), (y19, .inr (0, [.int 0, .ref yk1, .ref yk2, .ref yk3])), (yk1, .inl (k 0, 40, .inl fyk1)), (yk2, .inl (k 0, 40, .inl fyk2)), (yk3, .inl (k 0, 40, .inl fyk3))] := hD
  refine lv_aload_n hx hb dX10_become_151 rfl (lv_at hl 1 rfl) ?_
  refine va_get (D := D) (ci := 10) (v := .ref y13) (C := RX10) (T := TX10) (N := 20) hx hb hts iT_X10 hown hK hP 17 rfl rfl 13 (by decide) (hts _ tw_1_130) (fun _ h9 => h9) rfl dX10_become_152 ?_
  refine lv_iconst (v := 0) hx hb dX10_become_155 (by decide) ?_
  refine lv_aload_n hx hb dX10_become_156 rfl (lv_at hl 0 rfl) ?_
  refine va_get (D := D) (ci := 10) (v := .ref x13) (C := RX10) (T := TX10) (N := 20) hx hb hts iT_X10 hown hK hP 0 rfl rfl 13 (by decide) (hts _ tw_1_130) (fun _ h9 => h9) rfl dX10_become_157 ?_
  refine lv_iconst (v := 0) hx hb dX10_become_160 (by decide) ?_
  refine lv_bipush (v := 6) hx hb dX10_become_161 (by decide) ?_
  refine va_copyi (ty := .int) hx hb (by rw [hml]; exact hl.1.symm) hown (hts _ tw_6_2) (hts _ tw_4_178) (hts _ tw_4_177) (hts _ tw_1_21) hK hP hD hS 25 8 0 0 rfl rfl rfl rfl rfl (by decide) (by decide) (by decide) (by decide) (by decide) (fun _ _ => rfl) (Nat.le_of_ble_eq_true rfl) (Nat.le_of_ble_eq_true rfl) dX10_become_163 (fun H locs hP hD hS => ?_)
  have hP : va_P D vwCl [(x, .inr (10, [.int 0, .int 0, .int 0, .ref x3, .ref x4, .ref x5, .ref x6, .int 0, .int 0, .ref x9, .ref x10, .int 0, .ref x12, .ref x13, .ref x14, .ref x15, .int 0, .ref x17, .ref x18, .ref x19])), (x3, .inl (k 0, 10, .inl (va_cpy fy3 fx3 0 0 10))), (x4, .inl (k 0, 10, .inl (va_cpy fy4 fx4 0 0 10))), (x5, .inl (k 0, 10, .inl (va_cpy fy5 fx5 0 0 10))), (x6, .inl (k 0, 10, .inl (va_cpy fy6 fx6 0 0 10))), (x9, .inl (k 0, 4, .inl (va_cpy fy9 fx9 0 0 4))), (x10, .inl (k 0, 4, .inl (va_cpy fy10 fx10 0 0 4))), (x12, .inl (k 0, 6, .inl (va_cpy fy12 fx12 0 0 6))), (x13, .inl (k 0, 6, .inl (va_cpy fy13 fx13 0 0 6))), (x14, .inl (k 0, 6, .inl fx14)), (x15, .inl (k 0, 6, .inl fx15)), (x17, .inl (k 0, 2, .inl fx17)), (x18, .inl (k 0, 2, .inl fx18)), (x19, .inr (0, [.int 0, .ref xk1, .ref xk2, .ref xk3])), (xk1, .inl (k 0, 40, .inl fxk1)), (xk2, .inl (k 0, 40, .inl fxk2)), (xk3, .inl (k 0, 40, .inl fxk3)), (y, .inr (10, [.int 0, .int 0, .int 0, .ref y3, .ref y4, .ref y5, .ref y6, .int 0, .int 0, .ref y9, .ref y10, .int 0, .ref y12, .ref y13, .ref y14, .ref y15, .int 0, .ref y17, .ref y18, .ref y19])), (y3, .inl (k 0, 10, .inl fy3)), (y4, .inl (k 0, 10, .inl fy4)), (y5, .inl (k 0, 10, .inl fy5)), (y6, .inl (k 0, 10, .inl fy6)), (y9, .inl (k 0, 4, .inl fy9)), (y10, .inl (k 0, 4, .inl fy10)), (y12, .inl (k 0, 6, .inl fy12)), (y13, .inl (k 0, 6, .inl fy13)), (y14, .inl (k 0, 6, .inl fy14)), (y15, .inl (k 0, 6, .inl fy15)), (y17, .inl (k 0, 2, .inl fy17)), (y18, .inl (k 0, 2, .inl fy18)), (y19, .inr (0, [.int 0, .ref yk1, .ref yk2, .ref yk3])), (yk1, .inl (k 0, 40, .inl fyk1)), (yk2, .inl (k 0, 40, .inl fyk2)), (yk3, .inl (k 0, 40, .inl fyk3))] H := hP
  have hD : va_D A [(x, .inr (10, [.int 0, .int 0, .int 0, .ref x3, .ref x4, .ref x5, .ref x6, .int 0, .int 0, .ref x9, .ref x10, .int 0, .ref x12, .ref x13, .ref x14, .ref x15, .int 0, .ref x17, .ref x18, .ref x19])), (x3, .inl (k 0, 10, .inl (va_cpy fy3 fx3 0 0 10))), (x4, .inl (k 0, 10, .inl (va_cpy fy4 fx4 0 0 10))), (x5, .inl (k 0, 10, .inl (va_cpy fy5 fx5 0 0 10))), (x6, .inl (k 0, 10, .inl (va_cpy fy6 fx6 0 0 10))), (x9, .inl (k 0, 4, .inl (va_cpy fy9 fx9 0 0 4))), (x10, .inl (k 0, 4, .inl (va_cpy fy10 fx10 0 0 4))), (x12, .inl (k 0, 6, .inl (va_cpy fy12 fx12 0 0 6))), (x13, .inl (k 0, 6, .inl (va_cpy fy13 fx13 0 0 6))), (x14, .inl (k 0, 6, .inl fx14)), (x15, .inl (k 0, 6, .inl fx15)), (x17, .inl (k 0, 2, .inl fx17)), (x18, .inl (k 0, 2, .inl fx18)), (x19, .inr (0, [.int 0, .ref xk1, .ref xk2, .ref xk3])), (xk1, .inl (k 0, 40, .inl fxk1)), (xk2, .inl (k 0, 40, .inl fxk2)), (xk3, .inl (k 0, 40, .inl fxk3)), (y, .inr (10, [.int 0, .int 0, .int 0, .ref y3, .ref y4, .ref y5, .ref y6, .int 0, .int 0, .ref y9, .ref y10, .int 0, .ref y12, .ref y13, .ref y14, .ref y15, .int 0, .ref y17, .ref y18, .ref y19])), (y3, .inl (k 0, 10, .inl fy3)), (y4, .inl (k 0, 10, .inl fy4)), (y5, .inl (k 0, 10, .inl fy5)), (y6, .inl (k 0, 10, .inl fy6)), (y9, .inl (k 0, 4, .inl fy9)), (y10, .inl (k 0, 4, .inl fy10)), (y12, .inl (k 0, 6, .inl fy12)), (y13, .inl (k 0, 6, .inl fy13)), (y14, .inl (k 0, 6, .inl fy14)), (y15, .inl (k 0, 6, .inl fy15)), (y17, .inl (k 0, 2, .inl fy17)), (y18, .inl (k 0, 2, .inl fy18)), (y19, .inr (0, [.int 0, .ref yk1, .ref yk2, .ref yk3])), (yk1, .inl (k 0, 40, .inl fyk1)), (yk2, .inl (k 0, 40, .inl fyk2)), (yk3, .inl (k 0, 40, .inl fyk3))] := hD
  refine lv_aload_n hx hb dX10_become_166 rfl (lv_at hl 1 rfl) ?_
  refine va_get (D := D) (ci := 10) (v := .ref y14) (C := RX10) (T := TX10) (N := 20) hx hb hts iT_X10 hown hK hP 17 rfl rfl 14 (by decide) (hts _ tw_1_134) (fun _ h9 => h9) rfl dX10_become_167 ?_
  refine lv_iconst (v := 0) hx hb dX10_become_170 (by decide) ?_
  refine lv_aload_n hx hb dX10_become_171 rfl (lv_at hl 0 rfl) ?_
  refine va_get (D := D) (ci := 10) (v := .ref x14) (C := RX10) (T := TX10) (N := 20) hx hb hts iT_X10 hown hK hP 0 rfl rfl 14 (by decide) (hts _ tw_1_134) (fun _ h9 => h9) rfl dX10_become_172 ?_
  refine lv_iconst (v := 0) hx hb dX10_become_175 (by decide) ?_
  refine lv_bipush (v := 6) hx hb dX10_become_176 (by decide) ?_
  refine va_copyi (ty := .int) hx hb (by rw [hml]; exact hl.1.symm) hown (hts _ tw_6_2) (hts _ tw_4_178) (hts _ tw_4_177) (hts _ tw_1_21) hK hP hD hS 26 9 0 0 rfl rfl rfl rfl rfl (by decide) (by decide) (by decide) (by decide) (by decide) (fun _ _ => rfl) (Nat.le_of_ble_eq_true rfl) (Nat.le_of_ble_eq_true rfl) dX10_become_178 (fun H locs hP hD hS => ?_)
  have hP : va_P D vwCl [(x, .inr (10, [.int 0, .int 0, .int 0, .ref x3, .ref x4, .ref x5, .ref x6, .int 0, .int 0, .ref x9, .ref x10, .int 0, .ref x12, .ref x13, .ref x14, .ref x15, .int 0, .ref x17, .ref x18, .ref x19])), (x3, .inl (k 0, 10, .inl (va_cpy fy3 fx3 0 0 10))), (x4, .inl (k 0, 10, .inl (va_cpy fy4 fx4 0 0 10))), (x5, .inl (k 0, 10, .inl (va_cpy fy5 fx5 0 0 10))), (x6, .inl (k 0, 10, .inl (va_cpy fy6 fx6 0 0 10))), (x9, .inl (k 0, 4, .inl (va_cpy fy9 fx9 0 0 4))), (x10, .inl (k 0, 4, .inl (va_cpy fy10 fx10 0 0 4))), (x12, .inl (k 0, 6, .inl (va_cpy fy12 fx12 0 0 6))), (x13, .inl (k 0, 6, .inl (va_cpy fy13 fx13 0 0 6))), (x14, .inl (k 0, 6, .inl (va_cpy fy14 fx14 0 0 6))), (x15, .inl (k 0, 6, .inl fx15)), (x17, .inl (k 0, 2, .inl fx17)), (x18, .inl (k 0, 2, .inl fx18)), (x19, .inr (0, [.int 0, .ref xk1, .ref xk2, .ref xk3])), (xk1, .inl (k 0, 40, .inl fxk1)), (xk2, .inl (k 0, 40, .inl fxk2)), (xk3, .inl (k 0, 40, .inl fxk3)), (y, .inr (10, [.int 0, .int 0, .int 0, .ref y3, .ref y4, .ref y5, .ref y6, .int 0, .int 0, .ref y9, .ref y10, .int 0, .ref y12, .ref y13, .ref y14, .ref y15, .int 0, .ref y17, .ref y18, .ref y19])), (y3, .inl (k 0, 10, .inl fy3)), (y4, .inl (k 0, 10, .inl fy4)), (y5, .inl (k 0, 10, .inl fy5)), (y6, .inl (k 0, 10, .inl fy6)), (y9, .inl (k 0, 4, .inl fy9)), (y10, .inl (k 0, 4, .inl fy10)), (y12, .inl (k 0, 6, .inl fy12)), (y13, .inl (k 0, 6, .inl fy13)), (y14, .inl (k 0, 6, .inl fy14)), (y15, .inl (k 0, 6, .inl fy15)), (y17, .inl (k 0, 2, .inl fy17)), (y18, .inl (k 0, 2, .inl fy18)), (y19, .inr (0, [.int 0, .ref yk1, .ref yk2, .ref yk3])), (yk1, .inl (k 0, 40, .inl fyk1)), (yk2, .inl (k 0, 40, .inl fyk2)), (yk3, .inl (k 0, 40, .inl fyk3))] H := hP
  have hD : va_D A [(x, .inr (10, [.int 0, .int 0, .int 0, .ref x3, .ref x4, .ref x5, .ref x6, .int 0, .int 0, .ref x9, .ref x10, .int 0, .ref x12, .ref x13, .ref x14, .ref x15, .int 0, .ref x17, .ref x18, .ref x19])), (x3, .inl (k 0, 10, .inl (va_cpy fy3 fx3 0 0 10))), (x4, .inl (k 0, 10, .inl (va_cpy fy4 fx4 0 0 10))), (x5, .inl (k 0, 10, .inl (va_cpy fy5 fx5 0 0 10))), (x6, .inl (k 0, 10, .inl (va_cpy fy6 fx6 0 0 10))), (x9, .inl (k 0, 4, .inl (va_cpy fy9 fx9 0 0 4))), (x10, .inl (k 0, 4, .inl (va_cpy fy10 fx10 0 0 4))), (x12, .inl (k 0, 6, .inl (va_cpy fy12 fx12 0 0 6))), (x13, .inl (k 0, 6, .inl (va_cpy fy13 fx13 0 0 6))), (x14, .inl (k 0, 6, .inl (va_cpy fy14 fx14 0 0 6))), (x15, .inl (k 0, 6, .inl fx15)), (x17, .inl (k 0, 2, .inl fx17)), (x18, .inl (k 0, 2, .inl fx18)), (x19, .inr (0, [.int 0, .ref xk1, .ref xk2, .ref xk3])), (xk1, .inl (k 0, 40, .inl fxk1)), (xk2, .inl (k 0, 40, .inl fxk2)), (xk3, .inl (k 0, 40, .inl fxk3)), (y, .inr (10, [.int 0, .int 0, .int 0, .ref y3, .ref y4, .ref y5, .ref y6, .int 0, .int 0, .ref y9, .ref y10, .int 0, .ref y12, .ref y13, .ref y14, .ref y15, .int 0, .ref y17, .ref y18, .ref y19])), (y3, .inl (k 0, 10, .inl fy3)), (y4, .inl (k 0, 10, .inl fy4)), (y5, .inl (k 0, 10, .inl fy5)), (y6, .inl (k 0, 10, .inl fy6)), (y9, .inl (k 0, 4, .inl fy9)), (y10, .inl (k 0, 4, .inl fy10)), (y12, .inl (k 0, 6, .inl fy12)), (y13, .inl (k 0, 6, .inl fy13)), (y14, .inl (k 0, 6, .inl fy14)), (y15, .inl (k 0, 6, .inl fy15)), (y17, .inl (k 0, 2, .inl fy17)), (y18, .inl (k 0, 2, .inl fy18)), (y19, .inr (0, [.int 0, .ref yk1, .ref yk2, .ref yk3])), (yk1, .inl (k 0, 40, .inl fyk1)), (yk2, .inl (k 0, 40, .inl fyk2)), (yk3, .inl (k 0, 40, .inl fyk3))] := hD
  refine lv_aload_n hx hb dX10_become_181 rfl (lv_at hl 1 rfl) ?_
  refine va_get (D := D) (ci := 10) (v := .ref y15) (C := RX10) (T := TX10) (N := 20) hx hb hts iT_X10 hown hK hP 17 rfl rfl 15 (by decide) (hts _ tw_1_138) (fun _ h9 => h9) rfl dX10_become_182 ?_
  refine lv_iconst (v := 0) hx hb dX10_become_185 (by decide) ?_
  refine lv_aload_n hx hb dX10_become_186 rfl (lv_at hl 0 rfl) ?_
  refine va_get (D := D) (ci := 10) (v := .ref x15) (C := RX10) (T := TX10) (N := 20) hx hb hts iT_X10 hown hK hP 0 rfl rfl 15 (by decide) (hts _ tw_1_138) (fun _ h9 => h9) rfl dX10_become_187 ?_
  refine lv_iconst (v := 0) hx hb dX10_become_190 (by decide) ?_
  refine lv_bipush (v := 6) hx hb dX10_become_191 (by decide) ?_
  refine va_copyi (ty := .int) hx hb (by rw [hml]; exact hl.1.symm) hown (hts _ tw_6_2) (hts _ tw_4_178) (hts _ tw_4_177) (hts _ tw_1_21) hK hP hD hS 27 10 0 0 rfl rfl rfl rfl rfl (by decide) (by decide) (by decide) (by decide) (by decide) (fun _ _ => rfl) (Nat.le_of_ble_eq_true rfl) (Nat.le_of_ble_eq_true rfl) dX10_become_193 (fun H locs hP hD hS => ?_)
  have hP : va_P D vwCl [(x, .inr (10, [.int 0, .int 0, .int 0, .ref x3, .ref x4, .ref x5, .ref x6, .int 0, .int 0, .ref x9, .ref x10, .int 0, .ref x12, .ref x13, .ref x14, .ref x15, .int 0, .ref x17, .ref x18, .ref x19])), (x3, .inl (k 0, 10, .inl (va_cpy fy3 fx3 0 0 10))), (x4, .inl (k 0, 10, .inl (va_cpy fy4 fx4 0 0 10))), (x5, .inl (k 0, 10, .inl (va_cpy fy5 fx5 0 0 10))), (x6, .inl (k 0, 10, .inl (va_cpy fy6 fx6 0 0 10))), (x9, .inl (k 0, 4, .inl (va_cpy fy9 fx9 0 0 4))), (x10, .inl (k 0, 4, .inl (va_cpy fy10 fx10 0 0 4))), (x12, .inl (k 0, 6, .inl (va_cpy fy12 fx12 0 0 6))), (x13, .inl (k 0, 6, .inl (va_cpy fy13 fx13 0 0 6))), (x14, .inl (k 0, 6, .inl (va_cpy fy14 fx14 0 0 6))), (x15, .inl (k 0, 6, .inl (va_cpy fy15 fx15 0 0 6))), (x17, .inl (k 0, 2, .inl fx17)), (x18, .inl (k 0, 2, .inl fx18)), (x19, .inr (0, [.int 0, .ref xk1, .ref xk2, .ref xk3])), (xk1, .inl (k 0, 40, .inl fxk1)), (xk2, .inl (k 0, 40, .inl fxk2)), (xk3, .inl (k 0, 40, .inl fxk3)), (y, .inr (10, [.int 0, .int 0, .int 0, .ref y3, .ref y4, .ref y5, .ref y6, .int 0, .int 0, .ref y9, .ref y10, .int 0, .ref y12, .ref y13, .ref y14, .ref y15, .int 0, .ref y17, .ref y18, .ref y19])), (y3, .inl (k 0, 10, .inl fy3)), (y4, .inl (k 0, 10, .inl fy4)), (y5, .inl (k 0, 10, .inl fy5)), (y6, .inl (k 0, 10, .inl fy6)), (y9, .inl (k 0, 4, .inl fy9)), (y10, .inl (k 0, 4, .inl fy10)), (y12, .inl (k 0, 6, .inl fy12)), (y13, .inl (k 0, 6, .inl fy13)), (y14, .inl (k 0, 6, .inl fy14)), (y15, .inl (k 0, 6, .inl fy15)), (y17, .inl (k 0, 2, .inl fy17)), (y18, .inl (k 0, 2, .inl fy18)), (y19, .inr (0, [.int 0, .ref yk1, .ref yk2, .ref yk3])), (yk1, .inl (k 0, 40, .inl fyk1)), (yk2, .inl (k 0, 40, .inl fyk2)), (yk3, .inl (k 0, 40, .inl fyk3))] H := hP
  have hD : va_D A [(x, .inr (10, [.int 0, .int 0, .int 0, .ref x3, .ref x4, .ref x5, .ref x6, .int 0, .int 0, .ref x9, .ref x10, .int 0, .ref x12, .ref x13, .ref x14, .ref x15, .int 0, .ref x17, .ref x18, .ref x19])), (x3, .inl (k 0, 10, .inl (va_cpy fy3 fx3 0 0 10))), (x4, .inl (k 0, 10, .inl (va_cpy fy4 fx4 0 0 10))), (x5, .inl (k 0, 10, .inl (va_cpy fy5 fx5 0 0 10))), (x6, .inl (k 0, 10, .inl (va_cpy fy6 fx6 0 0 10))), (x9, .inl (k 0, 4, .inl (va_cpy fy9 fx9 0 0 4))), (x10, .inl (k 0, 4, .inl (va_cpy fy10 fx10 0 0 4))), (x12, .inl (k 0, 6, .inl (va_cpy fy12 fx12 0 0 6))), (x13, .inl (k 0, 6, .inl (va_cpy fy13 fx13 0 0 6))), (x14, .inl (k 0, 6, .inl (va_cpy fy14 fx14 0 0 6))), (x15, .inl (k 0, 6, .inl (va_cpy fy15 fx15 0 0 6))), (x17, .inl (k 0, 2, .inl fx17)), (x18, .inl (k 0, 2, .inl fx18)), (x19, .inr (0, [.int 0, .ref xk1, .ref xk2, .ref xk3])), (xk1, .inl (k 0, 40, .inl fxk1)), (xk2, .inl (k 0, 40, .inl fxk2)), (xk3, .inl (k 0, 40, .inl fxk3)), (y, .inr (10, [.int 0, .int 0, .int 0, .ref y3, .ref y4, .ref y5, .ref y6, .int 0, .int 0, .ref y9, .ref y10, .int 0, .ref y12, .ref y13, .ref y14, .ref y15, .int 0, .ref y17, .ref y18, .ref y19])), (y3, .inl (k 0, 10, .inl fy3)), (y4, .inl (k 0, 10, .inl fy4)), (y5, .inl (k 0, 10, .inl fy5)), (y6, .inl (k 0, 10, .inl fy6)), (y9, .inl (k 0, 4, .inl fy9)), (y10, .inl (k 0, 4, .inl fy10)), (y12, .inl (k 0, 6, .inl fy12)), (y13, .inl (k 0, 6, .inl fy13)), (y14, .inl (k 0, 6, .inl fy14)), (y15, .inl (k 0, 6, .inl fy15)), (y17, .inl (k 0, 2, .inl fy17)), (y18, .inl (k 0, 2, .inl fy18)), (y19, .inr (0, [.int 0, .ref yk1, .ref yk2, .ref yk3])), (yk1, .inl (k 0, 40, .inl fyk1)), (yk2, .inl (k 0, 40, .inl fyk2)), (yk3, .inl (k 0, 40, .inl fyk3))] := hD
  refine lv_aload_n hx hb dX10_become_196 rfl (lv_at hl 0 rfl) ?_
  refine lv_aload_n hx hb dX10_become_197 rfl (lv_at hl 1 rfl) ?_
  refine va_get (D := D) (ci := 10) (v := .int 0) (C := RX10) (T := TX10) (N := 20) hx hb hts iT_X10 hown hK hP 17 rfl rfl 16 (by decide) (hts _ tw_1_142) (fun _ h9 => h9) rfl dX10_become_198 ?_
  refine va_put (D := D) (ci := 10) (v := .int 0) (ty := tyX10 16) (C := RX10) (T := TX10) (N := 20) hx hb hts iT_X10 tyX10 tyX10_ok nmX10 hown hK hP hD hS 0 rfl rfl 16 (by decide) (hts _ tw_1_142) (fun _ h9 => h9) rfl (tyX10_ok 16 (by decide)) rfl rfl (Nat.le_of_ble_eq_true rfl) dX10_become_201 (fun H locs hP hD hS => ?_)
  have hP : va_P D vwCl [(x, .inr (10, [.int 0, .int 0, .int 0, .ref x3, .ref x4, .ref x5, .ref x6, .int 0, .int 0, .ref x9, .ref x10, .int 0, .ref x12, .ref x13, .ref x14, .ref x15, .int 0, .ref x17, .ref x18, .ref x19])), (x3, .inl (k 0, 10, .inl (va_cpy fy3 fx3 0 0 10))), (x4, .inl (k 0, 10, .inl (va_cpy fy4 fx4 0 0 10))), (x5, .inl (k 0, 10, .inl (va_cpy fy5 fx5 0 0 10))), (x6, .inl (k 0, 10, .inl (va_cpy fy6 fx6 0 0 10))), (x9, .inl (k 0, 4, .inl (va_cpy fy9 fx9 0 0 4))), (x10, .inl (k 0, 4, .inl (va_cpy fy10 fx10 0 0 4))), (x12, .inl (k 0, 6, .inl (va_cpy fy12 fx12 0 0 6))), (x13, .inl (k 0, 6, .inl (va_cpy fy13 fx13 0 0 6))), (x14, .inl (k 0, 6, .inl (va_cpy fy14 fx14 0 0 6))), (x15, .inl (k 0, 6, .inl (va_cpy fy15 fx15 0 0 6))), (x17, .inl (k 0, 2, .inl fx17)), (x18, .inl (k 0, 2, .inl fx18)), (x19, .inr (0, [.int 0, .ref xk1, .ref xk2, .ref xk3])), (xk1, .inl (k 0, 40, .inl fxk1)), (xk2, .inl (k 0, 40, .inl fxk2)), (xk3, .inl (k 0, 40, .inl fxk3)), (y, .inr (10, [.int 0, .int 0, .int 0, .ref y3, .ref y4, .ref y5, .ref y6, .int 0, .int 0, .ref y9, .ref y10, .int 0, .ref y12, .ref y13, .ref y14, .ref y15, .int 0, .ref y17, .ref y18, .ref y19])), (y3, .inl (k 0, 10, .inl fy3)), (y4, .inl (k 0, 10, .inl fy4)), (y5, .inl (k 0, 10, .inl fy5)), (y6, .inl (k 0, 10, .inl fy6)), (y9, .inl (k 0, 4, .inl fy9)), (y10, .inl (k 0, 4, .inl fy10)), (y12, .inl (k 0, 6, .inl fy12)), (y13, .inl (k 0, 6, .inl fy13)), (y14, .inl (k 0, 6, .inl fy14)), (y15, .inl (k 0, 6, .inl fy15)), (y17, .inl (k 0, 2, .inl fy17)), (y18, .inl (k 0, 2, .inl fy18)), (y19, .inr (0, [.int 0, .ref yk1, .ref yk2, .ref yk3])), (yk1, .inl (k 0, 40, .inl fyk1)), (yk2, .inl (k 0, 40, .inl fyk2)), (yk3, .inl (k 0, 40, .inl fyk3))] H := hP
  have hD : va_D A [(x, .inr (10, [.int 0, .int 0, .int 0, .ref x3, .ref x4, .ref x5, .ref x6, .int 0, .int 0, .ref x9, .ref x10, .int 0, .ref x12, .ref x13, .ref x14, .ref x15, .int 0, .ref x17, .ref x18, .ref x19])), (x3, .inl (k 0, 10, .inl (va_cpy fy3 fx3 0 0 10))), (x4, .inl (k 0, 10, .inl (va_cpy fy4 fx4 0 0 10))), (x5, .inl (k 0, 10, .inl (va_cpy fy5 fx5 0 0 10))), (x6, .inl (k 0, 10, .inl (va_cpy fy6 fx6 0 0 10))), (x9, .inl (k 0, 4, .inl (va_cpy fy9 fx9 0 0 4))), (x10, .inl (k 0, 4, .inl (va_cpy fy10 fx10 0 0 4))), (x12, .inl (k 0, 6, .inl (va_cpy fy12 fx12 0 0 6))), (x13, .inl (k 0, 6, .inl (va_cpy fy13 fx13 0 0 6))), (x14, .inl (k 0, 6, .inl (va_cpy fy14 fx14 0 0 6))), (x15, .inl (k 0, 6, .inl (va_cpy fy15 fx15 0 0 6))), (x17, .inl (k 0, 2, .inl fx17)), (x18, .inl (k 0, 2, .inl fx18)), (x19, .inr (0, [.int 0, .ref xk1, .ref xk2, .ref xk3])), (xk1, .inl (k 0, 40, .inl fxk1)), (xk2, .inl (k 0, 40, .inl fxk2)), (xk3, .inl (k 0, 40, .inl fxk3)), (y, .inr (10, [.int 0, .int 0, .int 0, .ref y3, .ref y4, .ref y5, .ref y6, .int 0, .int 0, .ref y9, .ref y10, .int 0, .ref y12, .ref y13, .ref y14, .ref y15, .int 0, .ref y17, .ref y18, .ref y19])), (y3, .inl (k 0, 10, .inl fy3)), (y4, .inl (k 0, 10, .inl fy4)), (y5, .inl (k 0, 10, .inl fy5)), (y6, .inl (k 0, 10, .inl fy6)), (y9, .inl (k 0, 4, .inl fy9)), (y10, .inl (k 0, 4, .inl fy10)), (y12, .inl (k 0, 6, .inl fy12)), (y13, .inl (k 0, 6, .inl fy13)), (y14, .inl (k 0, 6, .inl fy14)), (y15, .inl (k 0, 6, .inl fy15)), (y17, .inl (k 0, 2, .inl fy17)), (y18, .inl (k 0, 2, .inl fy18)), (y19, .inr (0, [.int 0, .ref yk1, .ref yk2, .ref yk3])), (yk1, .inl (k 0, 40, .inl fyk1)), (yk2, .inl (k 0, 40, .inl fyk2)), (yk3, .inl (k 0, 40, .inl fyk3))] := hD
  refine lv_aload_n hx hb dX10_become_204 rfl (lv_at hl 1 rfl) ?_
  refine va_get (D := D) (ci := 10) (v := .ref y17) (C := RX10) (T := TX10) (N := 20) hx hb hts iT_X10 hown hK hP 17 rfl rfl 17 (by decide) (hts _ tw_1_146) (fun _ h9 => h9) rfl dX10_become_205 ?_
  refine lv_iconst (v := 0) hx hb dX10_become_208 (by decide) ?_
  refine lv_aload_n hx hb dX10_become_209 rfl (lv_at hl 0 rfl) ?_
  refine va_get (D := D) (ci := 10) (v := .ref x17) (C := RX10) (T := TX10) (N := 20) hx hb hts iT_X10 hown hK hP 0 rfl rfl 17 (by decide) (hts _ tw_1_146) (fun _ h9 => h9) rfl dX10_become_210 ?_
  refine lv_iconst (v := 0) hx hb dX10_become_213 (by decide) ?_
  refine lv_iconst (v := 2) hx hb dX10_become_214 (by decide) ?_
  refine va_copyi (ty := .int) hx hb (by rw [hml]; exact hl.1.symm) hown (hts _ tw_6_2) (hts _ tw_4_178) (hts _ tw_4_177) (hts _ tw_1_21) hK hP hD hS 28 11 0 0 rfl rfl rfl rfl rfl (by decide) (by decide) (by decide) (by decide) (by decide) (fun _ _ => rfl) (Nat.le_of_ble_eq_true rfl) (Nat.le_of_ble_eq_true rfl) dX10_become_215 (fun H locs hP hD hS => ?_)
  have hP : va_P D vwCl [(x, .inr (10, [.int 0, .int 0, .int 0, .ref x3, .ref x4, .ref x5, .ref x6, .int 0, .int 0, .ref x9, .ref x10, .int 0, .ref x12, .ref x13, .ref x14, .ref x15, .int 0, .ref x17, .ref x18, .ref x19])), (x3, .inl (k 0, 10, .inl (va_cpy fy3 fx3 0 0 10))), (x4, .inl (k 0, 10, .inl (va_cpy fy4 fx4 0 0 10))), (x5, .inl (k 0, 10, .inl (va_cpy fy5 fx5 0 0 10))), (x6, .inl (k 0, 10, .inl (va_cpy fy6 fx6 0 0 10))), (x9, .inl (k 0, 4, .inl (va_cpy fy9 fx9 0 0 4))), (x10, .inl (k 0, 4, .inl (va_cpy fy10 fx10 0 0 4))), (x12, .inl (k 0, 6, .inl (va_cpy fy12 fx12 0 0 6))), (x13, .inl (k 0, 6, .inl (va_cpy fy13 fx13 0 0 6))), (x14, .inl (k 0, 6, .inl (va_cpy fy14 fx14 0 0 6))), (x15, .inl (k 0, 6, .inl (va_cpy fy15 fx15 0 0 6))), (x17, .inl (k 0, 2, .inl (va_cpy fy17 fx17 0 0 2))), (x18, .inl (k 0, 2, .inl fx18)), (x19, .inr (0, [.int 0, .ref xk1, .ref xk2, .ref xk3])), (xk1, .inl (k 0, 40, .inl fxk1)), (xk2, .inl (k 0, 40, .inl fxk2)), (xk3, .inl (k 0, 40, .inl fxk3)), (y, .inr (10, [.int 0, .int 0, .int 0, .ref y3, .ref y4, .ref y5, .ref y6, .int 0, .int 0, .ref y9, .ref y10, .int 0, .ref y12, .ref y13, .ref y14, .ref y15, .int 0, .ref y17, .ref y18, .ref y19])), (y3, .inl (k 0, 10, .inl fy3)), (y4, .inl (k 0, 10, .inl fy4)), (y5, .inl (k 0, 10, .inl fy5)), (y6, .inl (k 0, 10, .inl fy6)), (y9, .inl (k 0, 4, .inl fy9)), (y10, .inl (k 0, 4, .inl fy10)), (y12, .inl (k 0, 6, .inl fy12)), (y13, .inl (k 0, 6, .inl fy13)), (y14, .inl (k 0, 6, .inl fy14)), (y15, .inl (k 0, 6, .inl fy15)), (y17, .inl (k 0, 2, .inl fy17)), (y18, .inl (k 0, 2, .inl fy18)), (y19, .inr (0, [.int 0, .ref yk1, .ref yk2, .ref yk3])), (yk1, .inl (k 0, 40, .inl fyk1)), (yk2, .inl (k 0, 40, .inl fyk2)), (yk3, .inl (k 0, 40, .inl fyk3))] H := hP
  have hD : va_D A [(x, .inr (10, [.int 0, .int 0, .int 0, .ref x3, .ref x4, .ref x5, .ref x6, .int 0, .int 0, .ref x9, .ref x10, .int 0, .ref x12, .ref x13, .ref x14, .ref x15, .int 0, .ref x17, .ref x18, .ref x19])), (x3, .inl (k 0, 10, .inl (va_cpy fy3 fx3 0 0 10))), (x4, .inl (k 0, 10, .inl (va_cpy fy4 fx4 0 0 10))), (x5, .inl (k 0, 10, .inl (va_cpy fy5 fx5 0 0 10))), (x6, .inl (k 0, 10, .inl (va_cpy fy6 fx6 0 0 10))), (x9, .inl (k 0, 4, .inl (va_cpy fy9 fx9 0 0 4))), (x10, .inl (k 0, 4, .inl (va_cpy fy10 fx10 0 0 4))), (x12, .inl (k 0, 6, .inl (va_cpy fy12 fx12 0 0 6))), (x13, .inl (k 0, 6, .inl (va_cpy fy13 fx13 0 0 6))), (x14, .inl (k 0, 6, .inl (va_cpy fy14 fx14 0 0 6))), (x15, .inl (k 0, 6, .inl (va_cpy fy15 fx15 0 0 6))), (x17, .inl (k 0, 2, .inl (va_cpy fy17 fx17 0 0 2))), (x18, .inl (k 0, 2, .inl fx18)), (x19, .inr (0, [.int 0, .ref xk1, .ref xk2, .ref xk3])), (xk1, .inl (k 0, 40, .inl fxk1)), (xk2, .inl (k 0, 40, .inl fxk2)), (xk3, .inl (k 0, 40, .inl fxk3)), (y, .inr (10, [.int 0, .int 0, .int 0, .ref y3, .ref y4, .ref y5, .ref y6, .int 0, .int 0, .ref y9, .ref y10, .int 0, .ref y12, .ref y13, .ref y14, .ref y15, .int 0, .ref y17, .ref y18, .ref y19])), (y3, .inl (k 0, 10, .inl fy3)), (y4, .inl (k 0, 10, .inl fy4)), (y5, .inl (k 0, 10, .inl fy5)), (y6, .inl (k 0, 10, .inl fy6)), (y9, .inl (k 0, 4, .inl fy9)), (y10, .inl (k 0, 4, .inl fy10)), (y12, .inl (k 0, 6, .inl fy12)), (y13, .inl (k 0, 6, .inl fy13)), (y14, .inl (k 0, 6, .inl fy14)), (y15, .inl (k 0, 6, .inl fy15)), (y17, .inl (k 0, 2, .inl fy17)), (y18, .inl (k 0, 2, .inl fy18)), (y19, .inr (0, [.int 0, .ref yk1, .ref yk2, .ref yk3])), (yk1, .inl (k 0, 40, .inl fyk1)), (yk2, .inl (k 0, 40, .inl fyk2)), (yk3, .inl (k 0, 40, .inl fyk3))] := hD
  refine lv_aload_n hx hb dX10_become_218 rfl (lv_at hl 1 rfl) ?_
  refine va_get (D := D) (ci := 10) (v := .ref y18) (C := RX10) (T := TX10) (N := 20) hx hb hts iT_X10 hown hK hP 17 rfl rfl 18 (by decide) (hts _ tw_1_149) (fun _ h9 => h9) rfl dX10_become_219 ?_
  refine lv_iconst (v := 0) hx hb dX10_become_222 (by decide) ?_
  refine lv_aload_n hx hb dX10_become_223 rfl (lv_at hl 0 rfl) ?_
  refine va_get (D := D) (ci := 10) (v := .ref x18) (C := RX10) (T := TX10) (N := 20) hx hb hts iT_X10 hown hK hP 0 rfl rfl 18 (by decide) (hts _ tw_1_149) (fun _ h9 => h9) rfl dX10_become_224 ?_
  refine lv_iconst (v := 0) hx hb dX10_become_227 (by decide) ?_
  refine lv_iconst (v := 2) hx hb dX10_become_228 (by decide) ?_
  refine va_copyi (ty := .int) hx hb (by rw [hml]; exact hl.1.symm) hown (hts _ tw_6_2) (hts _ tw_4_178) (hts _ tw_4_177) (hts _ tw_1_21) hK hP hD hS 29 12 0 0 rfl rfl rfl rfl rfl (by decide) (by decide) (by decide) (by decide) (by decide) (fun _ _ => rfl) (Nat.le_of_ble_eq_true rfl) (Nat.le_of_ble_eq_true rfl) dX10_become_229 (fun H locs hP hD hS => ?_)
  have hP : va_P D vwCl [(x, .inr (10, [.int 0, .int 0, .int 0, .ref x3, .ref x4, .ref x5, .ref x6, .int 0, .int 0, .ref x9, .ref x10, .int 0, .ref x12, .ref x13, .ref x14, .ref x15, .int 0, .ref x17, .ref x18, .ref x19])), (x3, .inl (k 0, 10, .inl (va_cpy fy3 fx3 0 0 10))), (x4, .inl (k 0, 10, .inl (va_cpy fy4 fx4 0 0 10))), (x5, .inl (k 0, 10, .inl (va_cpy fy5 fx5 0 0 10))), (x6, .inl (k 0, 10, .inl (va_cpy fy6 fx6 0 0 10))), (x9, .inl (k 0, 4, .inl (va_cpy fy9 fx9 0 0 4))), (x10, .inl (k 0, 4, .inl (va_cpy fy10 fx10 0 0 4))), (x12, .inl (k 0, 6, .inl (va_cpy fy12 fx12 0 0 6))), (x13, .inl (k 0, 6, .inl (va_cpy fy13 fx13 0 0 6))), (x14, .inl (k 0, 6, .inl (va_cpy fy14 fx14 0 0 6))), (x15, .inl (k 0, 6, .inl (va_cpy fy15 fx15 0 0 6))), (x17, .inl (k 0, 2, .inl (va_cpy fy17 fx17 0 0 2))), (x18, .inl (k 0, 2, .inl (va_cpy fy18 fx18 0 0 2))), (x19, .inr (0, [.int 0, .ref xk1, .ref xk2, .ref xk3])), (xk1, .inl (k 0, 40, .inl fxk1)), (xk2, .inl (k 0, 40, .inl fxk2)), (xk3, .inl (k 0, 40, .inl fxk3)), (y, .inr (10, [.int 0, .int 0, .int 0, .ref y3, .ref y4, .ref y5, .ref y6, .int 0, .int 0, .ref y9, .ref y10, .int 0, .ref y12, .ref y13, .ref y14, .ref y15, .int 0, .ref y17, .ref y18, .ref y19])), (y3, .inl (k 0, 10, .inl fy3)), (y4, .inl (k 0, 10, .inl fy4)), (y5, .inl (k 0, 10, .inl fy5)), (y6, .inl (k 0, 10, .inl fy6)), (y9, .inl (k 0, 4, .inl fy9)), (y10, .inl (k 0, 4, .inl fy10)), (y12, .inl (k 0, 6, .inl fy12)), (y13, .inl (k 0, 6, .inl fy13)), (y14, .inl (k 0, 6, .inl fy14)), (y15, .inl (k 0, 6, .inl fy15)), (y17, .inl (k 0, 2, .inl fy17)), (y18, .inl (k 0, 2, .inl fy18)), (y19, .inr (0, [.int 0, .ref yk1, .ref yk2, .ref yk3])), (yk1, .inl (k 0, 40, .inl fyk1)), (yk2, .inl (k 0, 40, .inl fyk2)), (yk3, .inl (k 0, 40, .inl fyk3))] H := hP
  have hD : va_D A [(x, .inr (10, [.int 0, .int 0, .int 0, .ref x3, .ref x4, .ref x5, .ref x6, .int 0, .int 0, .ref x9, .ref x10, .int 0, .ref x12, .ref x13, .ref x14, .ref x15, .int 0, .ref x17, .ref x18, .ref x19])), (x3, .inl (k 0, 10, .inl (va_cpy fy3 fx3 0 0 10))), (x4, .inl (k 0, 10, .inl (va_cpy fy4 fx4 0 0 10))), (x5, .inl (k 0, 10, .inl (va_cpy fy5 fx5 0 0 10))), (x6, .inl (k 0, 10, .inl (va_cpy fy6 fx6 0 0 10))), (x9, .inl (k 0, 4, .inl (va_cpy fy9 fx9 0 0 4))), (x10, .inl (k 0, 4, .inl (va_cpy fy10 fx10 0 0 4))), (x12, .inl (k 0, 6, .inl (va_cpy fy12 fx12 0 0 6))), (x13, .inl (k 0, 6, .inl (va_cpy fy13 fx13 0 0 6))), (x14, .inl (k 0, 6, .inl (va_cpy fy14 fx14 0 0 6))), (x15, .inl (k 0, 6, .inl (va_cpy fy15 fx15 0 0 6))), (x17, .inl (k 0, 2, .inl (va_cpy fy17 fx17 0 0 2))), (x18, .inl (k 0, 2, .inl (va_cpy fy18 fx18 0 0 2))), (x19, .inr (0, [.int 0, .ref xk1, .ref xk2, .ref xk3])), (xk1, .inl (k 0, 40, .inl fxk1)), (xk2, .inl (k 0, 40, .inl fxk2)), (xk3, .inl (k 0, 40, .inl fxk3)), (y, .inr (10, [.int 0, .int 0, .int 0, .ref y3, .ref y4, .ref y5, .ref y6, .int 0, .int 0, .ref y9, .ref y10, .int 0, .ref y12, .ref y13, .ref y14, .ref y15, .int 0, .ref y17, .ref y18, .ref y19])), (y3, .inl (k 0, 10, .inl fy3)), (y4, .inl (k 0, 10, .inl fy4)), (y5, .inl (k 0, 10, .inl fy5)), (y6, .inl (k 0, 10, .inl fy6)), (y9, .inl (k 0, 4, .inl fy9)), (y10, .inl (k 0, 4, .inl fy10)), (y12, .inl (k 0, 6, .inl fy12)), (y13, .inl (k 0, 6, .inl fy13)), (y14, .inl (k 0, 6, .inl fy14)), (y15, .inl (k 0, 6, .inl fy15)), (y17, .inl (k 0, 2, .inl fy17)), (y18, .inl (k 0, 2, .inl fy18)), (y19, .inr (0, [.int 0, .ref yk1, .ref yk2, .ref yk3])), (yk1, .inl (k 0, 40, .inl fyk1)), (yk2, .inl (k 0, 40, .inl fyk2)), (yk3, .inl (k 0, 40, .inl fyk3))] := hD
  refine lv_aload_n hx hb dX10_become_232 rfl (lv_at hl 0 rfl) ?_
  refine va_get (D := D) (ci := 10) (v := .ref x19) (C := RX10) (T := TX10) (N := 20) hx hb hts iT_X10 hown hK hP 0 rfl rfl 19 (by decide) (hts _ tw_1_152) (fun _ h9 => h9) rfl dX10_become_233 ?_
  refine lv_aload_n hx hb dX10_become_236 rfl (lv_at hl 1 rfl) ?_
  refine va_get (D := D) (ci := 10) (v := .ref y19) (C := RX10) (T := TX10) (N := 20) hx hb hts iT_X10 hown hK hP 17 rfl rfl 19 (by decide) (hts _ tw_1_152) (fun _ h9 => h9) rfl dX10_become_237 ?_
  have hPc := hP.sub (ws' := [(x19, .inr (0, [.int 0, .ref xk1, .ref xk2, .ref xk3])), (xk1, .inl (k 0, 40, .inl fxk1)), (xk2, .inl (k 0, 40, .inl fxk2)), (xk3, .inl (k 0, 40, .inl fxk3)), (y19, .inr (0, [.int 0, .ref yk1, .ref yk2, .ref yk3])), (yk1, .inl (k 0, 40, .inl fyk1)), (yk2, .inl (k 0, 40, .inl fyk2)), (yk3, .inl (k 0, 40, .inl fyk3))]) [13, 14, 15, 16, 30, 31, 32, 33] rfl
  have hDc := hD.sub (ws' := [(x19, .inr (0, [.int 0, .ref xk1, .ref xk2, .ref xk3])), (xk1, .inl (k 0, 40, .inl fxk1)), (xk2, .inl (k 0, 40, .inl fxk2)), (xk3, .inl (k 0, 40, .inl fxk3)), (y19, .inr (0, [.int 0, .ref yk1, .ref yk2, .ref yk3])), (yk1, .inl (k 0, 40, .inl fyk1)), (yk2, .inl (k 0, 40, .inl fyk2)), (yk3, .inl (k 0, 40, .inl fyk3))]) [13, 14, 15, 16, 30, 31, 32, 33] (by decide) rfl
  have hFc := va_free (wc := [(x19, .inr (0, [.int 0, .ref xk1, .ref xk2, .ref xk3])), (xk1, .inl (k 0, 40, .inl fxk1)), (xk2, .inl (k 0, 40, .inl fxk2)), (xk3, .inl (k 0, 40, .inl fxk3)), (y19, .inr (0, [.int 0, .ref yk1, .ref yk2, .ref yk3])), (yk1, .inl (k 0, 40, .inl fyk1)), (yk2, .inl (k 0, 40, .inl fyk2)), (yk3, .inl (k 0, 40, .inl fyk3))]) hD hS hA [13, 14, 15, 16, 30, 31, 32, 33] rfl
  refine va_callv (va_runV (C := RX0) (As := [.ref y19]) (rest := []) ⟨hx, hb, hml, hown, hts⟩ (c_X0_become l D k x19 xk1 xk2 xk3 y19 yk1 yk2 yk3 fxk1 fxk2 fxk3 fyk1 fyk2 fyk3 H.size) (cwV 1 hts (gV tw_6_3 tw_6_4 tw_6_5 tw_1_4 tw_6_6) rfl rfl rfl hdV_X0_become ⟨Nat.le_of_ble_eq_true rfl, Nat.le_of_ble_eq_true rfl⟩) (cz_V hK hPc hDc hN (ci := 0) (q0 := 0) rfl rfl [.ref y19]) rfl rfl hl.1 rfl (lv_room (Nat.le_of_ble_eq_true rfl)) dX10_become_240 ⟨Nat.le_of_ble_eq_true rfl, Nat.le_of_ble_eq_true rfl⟩) hS (fun q _ h => hFc q h) hFc (fun uZ tZ H1 locs ht hvm hw hB hz1 hk1 hS => ?_)
  obtain ⟨hP1, hK1, hD1⟩ := hB
  rw [ht] at hP1
  obtain ⟨hP, hD⟩ := va_join (wr := [(x, .inr (10, [.int 0, .int 0, .int 0, .ref x3, .ref x4, .ref x5, .ref x6, .int 0, .int 0, .ref x9, .ref x10, .int 0, .ref x12, .ref x13, .ref x14, .ref x15, .int 0, .ref x17, .ref x18, .ref x19])), (x3, .inl (k 0, 10, .inl (va_cpy fy3 fx3 0 0 10))), (x4, .inl (k 0, 10, .inl (va_cpy fy4 fx4 0 0 10))), (x5, .inl (k 0, 10, .inl (va_cpy fy5 fx5 0 0 10))), (x6, .inl (k 0, 10, .inl (va_cpy fy6 fx6 0 0 10))), (x9, .inl (k 0, 4, .inl (va_cpy fy9 fx9 0 0 4))), (x10, .inl (k 0, 4, .inl (va_cpy fy10 fx10 0 0 4))), (x12, .inl (k 0, 6, .inl (va_cpy fy12 fx12 0 0 6))), (x13, .inl (k 0, 6, .inl (va_cpy fy13 fx13 0 0 6))), (x14, .inl (k 0, 6, .inl (va_cpy fy14 fx14 0 0 6))), (x15, .inl (k 0, 6, .inl (va_cpy fy15 fx15 0 0 6))), (x17, .inl (k 0, 2, .inl (va_cpy fy17 fx17 0 0 2))), (x18, .inl (k 0, 2, .inl (va_cpy fy18 fx18 0 0 2))), (y, .inr (10, [.int 0, .int 0, .int 0, .ref y3, .ref y4, .ref y5, .ref y6, .int 0, .int 0, .ref y9, .ref y10, .int 0, .ref y12, .ref y13, .ref y14, .ref y15, .int 0, .ref y17, .ref y18, .ref y19])), (y3, .inl (k 0, 10, .inl fy3)), (y4, .inl (k 0, 10, .inl fy4)), (y5, .inl (k 0, 10, .inl fy5)), (y6, .inl (k 0, 10, .inl fy6)), (y9, .inl (k 0, 4, .inl fy9)), (y10, .inl (k 0, 4, .inl fy10)), (y12, .inl (k 0, 6, .inl fy12)), (y13, .inl (k 0, 6, .inl fy13)), (y14, .inl (k 0, 6, .inl fy14)), (y15, .inl (k 0, 6, .inl fy15)), (y17, .inl (k 0, 2, .inl fy17)), (y18, .inl (k 0, 2, .inl fy18))]) (w1 := []) hP hD [13, 14, 15, 16, 30, 31, 32, 33] [0, 1, 2, 3, 4, 5, 6, 7, 8, 9, 10, 11, 12, 17, 18, 19, 20, 21, 22, 23, 24, 25, 26, 27, 28, 29] rfl rfl (by decide) (by decide) hk1 hFc hP1 hD1
  clear hK1 hP1 hD1 hPc hDc hFc
  clear hk1 hz1 ht hvm
  have hP : va_P D vwCl [(x, .inr (10, [.int 0, .int 0, .int 0, .ref x3, .ref x4, .ref x5, .ref x6, .int 0, .int 0, .ref x9, .ref x10, .int 0, .ref x12, .ref x13, .ref x14, .ref x15, .int 0, .ref x17, .ref x18, .ref x19])), (x3, .inl (k 0, 10, .inl (va_cpy fy3 fx3 0 0 10))), (x4, .inl (k 0, 10, .inl (va_cpy fy4 fx4 0 0 10))), (x5, .inl (k 0, 10, .inl (va_cpy fy5 fx5 0 0 10))), (x6, .inl (k 0, 10, .inl (va_cpy fy6 fx6 0 0 10))), (x9, .inl (k 0, 4, .inl (va_cpy fy9 fx9 0 0 4))), (x10, .inl (k 0, 4, .inl (va_cpy fy10 fx10 0 0 4))), (x12, .inl (k 0, 6, .inl (va_cpy fy12 fx12 0 0 6))), (x13, .inl (k 0, 6, .inl (va_cpy fy13 fx13 0 0 6))), (x14, .inl (k 0, 6, .inl (va_cpy fy14 fx14 0 0 6))), (x15, .inl (k 0, 6, .inl (va_cpy fy15 fx15 0 0 6))), (x17, .inl (k 0, 2, .inl (va_cpy fy17 fx17 0 0 2))), (x18, .inl (k 0, 2, .inl (va_cpy fy18 fx18 0 0 2))), (y, .inr (10, [.int 0, .int 0, .int 0, .ref y3, .ref y4, .ref y5, .ref y6, .int 0, .int 0, .ref y9, .ref y10, .int 0, .ref y12, .ref y13, .ref y14, .ref y15, .int 0, .ref y17, .ref y18, .ref y19])), (y3, .inl (k 0, 10, .inl fy3)), (y4, .inl (k 0, 10, .inl fy4)), (y5, .inl (k 0, 10, .inl fy5)), (y6, .inl (k 0, 10, .inl fy6)), (y9, .inl (k 0, 4, .inl fy9)), (y10, .inl (k 0, 4, .inl fy10)), (y12, .inl (k 0, 6, .inl fy12)), (y13, .inl (k 0, 6, .inl fy13)), (y14, .inl (k 0, 6, .inl fy14)), (y15, .inl (k 0, 6, .inl fy15)), (y17, .inl (k 0, 2, .inl fy17)), (y18, .inl (k 0, 2, .inl fy18))] H1 := hP
  have hD : va_D A [(x, .inr (10, [.int 0, .int 0, .int 0, .ref x3, .ref x4, .ref x5, .ref x6, .int 0, .int 0, .ref x9, .ref x10, .int 0, .ref x12, .ref x13, .ref x14, .ref x15, .int 0, .ref x17, .ref x18, .ref x19])), (x3, .inl (k 0, 10, .inl (va_cpy fy3 fx3 0 0 10))), (x4, .inl (k 0, 10, .inl (va_cpy fy4 fx4 0 0 10))), (x5, .inl (k 0, 10, .inl (va_cpy fy5 fx5 0 0 10))), (x6, .inl (k 0, 10, .inl (va_cpy fy6 fx6 0 0 10))), (x9, .inl (k 0, 4, .inl (va_cpy fy9 fx9 0 0 4))), (x10, .inl (k 0, 4, .inl (va_cpy fy10 fx10 0 0 4))), (x12, .inl (k 0, 6, .inl (va_cpy fy12 fx12 0 0 6))), (x13, .inl (k 0, 6, .inl (va_cpy fy13 fx13 0 0 6))), (x14, .inl (k 0, 6, .inl (va_cpy fy14 fx14 0 0 6))), (x15, .inl (k 0, 6, .inl (va_cpy fy15 fx15 0 0 6))), (x17, .inl (k 0, 2, .inl (va_cpy fy17 fx17 0 0 2))), (x18, .inl (k 0, 2, .inl (va_cpy fy18 fx18 0 0 2))), (y, .inr (10, [.int 0, .int 0, .int 0, .ref y3, .ref y4, .ref y5, .ref y6, .int 0, .int 0, .ref y9, .ref y10, .int 0, .ref y12, .ref y13, .ref y14, .ref y15, .int 0, .ref y17, .ref y18, .ref y19])), (y3, .inl (k 0, 10, .inl fy3)), (y4, .inl (k 0, 10, .inl fy4)), (y5, .inl (k 0, 10, .inl fy5)), (y6, .inl (k 0, 10, .inl fy6)), (y9, .inl (k 0, 4, .inl fy9)), (y10, .inl (k 0, 4, .inl fy10)), (y12, .inl (k 0, 6, .inl fy12)), (y13, .inl (k 0, 6, .inl fy13)), (y14, .inl (k 0, 6, .inl fy14)), (y15, .inl (k 0, 6, .inl fy15)), (y17, .inl (k 0, 2, .inl fy17)), (y18, .inl (k 0, 2, .inl fy18))] := hD
  generalize H1 = H at hP hS ⊢
  clear hw
  have hP9 := hP.sub (ws' := []) [] rfl
  have hD9 := hD.sub (ws' := []) [] (by decide) rfl
  exact W.vret hx hb hr (fun tZ ht hW => ⟨⟨(), rfl, trivial, by rw [ht]; exact hP9, va_K.moved hW.alike hK, hD9⟩, hS.F ht⟩) hS.2.2 dX10_become_243
set_option maxHeartbeats 4000000 in
set_option maxRecDepth 100000 in
theorem c_X11_image (l : Launch) (D : va_G) (k : Nat → ClassId) (g : Nat) (g0 : Nat) (g1 : Nat) (g2 : Nat) (g4 : Nat) (g5 : Nat) (g6 : Nat) (g7 : Nat) (g8 : Nat) (g9 : Nat) (g10 : Nat) (g11 : Nat) (g12 : Nat) (fi : Nat → Option Nat) (t3 : Nat) (t4 : Nat) (t5 : Nat) (t6 : Nat) (t9 : Nat) (t10 : Nat) (t12 : Nat) (t13 : Nat) (t14 : Nat) (t15 : Nat) (t17 : Nat) (t18 : Nat) (t19 : Nat) (ft3 : Nat → Int32) (ft4 : Nat → Int32) (ft5 : Nat → Int32) (ft6 : Nat → Int32) (ft9 : Nat → Int32) (ft10 : Nat → Int32) (ft12 : Nat → Int32) (ft13 : Nat → Int32) (ft14 : Nat → Int32) (ft15 : Nat → Int32) (ft17 : Nat → Int32) (ft18 : Nat → Int32) (tk1 : Nat) (tk2 : Nat) (tk3 : Nat) (ftk1 : Nat → Int32) (ftk2 : Nat → Int32) (ftk3 : Nat → Int32) (i0 : Nat) (i0x3 : Nat) (i0x4 : Nat) (i0x5 : Nat) (i0x6 : Nat) (i0x9 : Nat) (i0x10 : Nat) (i0x12 : Nat) (i0x13 : Nat) (i0x14 : Nat) (i0x15 : Nat) (i0x17 : Nat) (i0x18 : Nat) (i0x19 : Nat) (f0x3 : Nat → Int32) (f0x4 : Nat → Int32) (f0x5 : Nat → Int32) (f0x6 : Nat → Int32) (f0x9 : Nat → Int32) (f0x10 : Nat → Int32) (f0x12 : Nat → Int32) (f0x13 : Nat → Int32) (f0x14 : Nat → Int32) (f0x15 : Nat → Int32) (f0x17 : Nat → Int32) (f0x18 : Nat → Int32) (i0xk1 : Nat) (i0xk2 : Nat) (i0xk3 : Nat) (f0xk1 : Nat → Int32) (f0xk2 : Nat → Int32) (f0xk3 : Nat → Int32) (i1 : Nat) (i1x3 : Nat) (i1x4 : Nat) (i1x5 : Nat) (i1x6 : Nat) (i1x9 : Nat) (i1x10 : Nat) (i1x12 : Nat) (i1x13 : Nat) (i1x14 : Nat) (i1x15 : Nat) (i1x17 : Nat) (i1x18 : Nat) (i1x19 : Nat) (f1x3 : Nat → Int32) (f1x4 : Nat → Int32) (f1x5 : Nat → Int32) (f1x6 : Nat → Int32) (f1x9 : Nat → Int32) (f1x10 : Nat → Int32) (f1x12 : Nat → Int32) (f1x13 : Nat → Int32) (f1x14 : Nat → Int32) (f1x15 : Nat → Int32) (f1x17 : Nat → Int32) (f1x18 : Nat → Int32) (i1xk1 : Nat) (i1xk2 : Nat) (i1xk3 : Nat) (f1xk1 : Nat → Int32) (f1xk2 : Nat → Int32) (f1xk3 : Nat → Int32) (i2 : Nat) (i2x3 : Nat) (i2x4 : Nat) (i2x5 : Nat) (i2x6 : Nat) (i2x9 : Nat) (i2x10 : Nat) (i2x12 : Nat) (i2x13 : Nat) (i2x14 : Nat) (i2x15 : Nat) (i2x17 : Nat) (i2x18 : Nat) (i2x19 : Nat) (f2x3 : Nat → Int32) (f2x4 : Nat → Int32) (f2x5 : Nat → Int32) (f2x6 : Nat → Int32) (f2x9 : Nat → Int32) (f2x10 : Nat → Int32) (f2x12 : Nat → Int32) (f2x13 : Nat → Int32) (f2x14 : Nat → Int32) (f2x15 : Nat → Int32) (f2x17 : Nat → Int32) (f2x18 : Nat → Int32) (i2xk1 : Nat) (i2xk2 : Nat) (i2xk3 : Nat) (f2xk1 : Nat → Int32) (f2xk2 : Nat → Int32) (f2xk3 : Nat → Int32) (p0 : Int32) (sz : Nat) (hf0 : fi 0 = some i0) (hf1 : fi 1 = some i1) (hf2 : fi 2 = some i2) : Met l yX11_image (ww yX11_image cX11_image 2 (some .int)) ({ frames := 3, cells := 0, slots := 0, locals := 102 }) (Pre0 D k [(g, .inr (11, [.ref g0, .ref g1, .ref g2, .int 0, .ref g4, .ref g5, .ref g6, .ref g7, .ref g8, .ref g9, .ref g10, .ref g11, .ref g12])), (g2, .inl (k 4, 3, .inr (.inr (.inr (.inr fi))))), (g1, .inr (10, [.int 0, .int 0, .int 0, .ref t3, .ref t4, .ref t5, .ref t6, .int 0, .int 0, .ref t9, .ref t10, .int 0, .ref t12, .ref t13, .ref t14, .ref t15, .int 0, .ref t17, .ref t18, .ref t19])), (t3, .inl (k 0, 10, .inl ft3)), (t4, .inl (k 0, 10, .inl ft4)), (t5, .inl (k 0, 10, .inl ft5)), (t6, .inl (k 0, 10, .inl ft6)), (t9, .inl (k 0, 4, .inl ft9)), (t10, .inl (k 0, 4, .inl ft10)), (t12, .inl (k 0, 6, .inl ft12)), (t13, .inl (k 0, 6, .inl ft13)), (t14, .inl (k 0, 6, .inl ft14)), (t15, .inl (k 0, 6, .inl ft15)), (t17, .inl (k 0, 2, .inl ft17)), (t18, .inl (k 0, 2, .inl ft18)), (t19, .inr (0, [.int 0, .ref tk1, .ref tk2, .ref tk3])), (tk1, .inl (k 0, 40, .inl ftk1)), (tk2, .inl (k 0, 40, .inl ftk2)), (tk3, .inl (k 0, 40, .inl ftk3)), (i0, .inr (10, [.int 0, .int 0, .int 0, .ref i0x3, .ref i0x4, .ref i0x5, .ref i0x6, .int 0, .int 0, .ref i0x9, .ref i0x10, .int 0, .ref i0x12, .ref i0x13, .ref i0x14, .ref i0x15, .int 0, .ref i0x17, .ref i0x18, .ref i0x19])), (i0x3, .inl (k 0, 10, .inl f0x3)), (i0x4, .inl (k 0, 10, .inl f0x4)), (i0x5, .inl (k 0, 10, .inl f0x5)), (i0x6, .inl (k 0, 10, .inl f0x6)), (i0x9, .inl (k 0, 4, .inl f0x9)), (i0x10, .inl (k 0, 4, .inl f0x10)), (i0x12, .inl (k 0, 6, .inl f0x12)), (i0x13, .inl (k 0, 6, .inl f0x13)), (i0x14, .inl (k 0, 6, .inl f0x14)), (i0x15, .inl (k 0, 6, .inl f0x15)), (i0x17, .inl (k 0, 2, .inl f0x17)), (i0x18, .inl (k 0, 2, .inl f0x18)), (i0x19, .inr (0, [.int 0, .ref i0xk1, .ref i0xk2, .ref i0xk3])), (i0xk1, .inl (k 0, 40, .inl f0xk1)), (i0xk2, .inl (k 0, 40, .inl f0xk2)), (i0xk3, .inl (k 0, 40, .inl f0xk3)), (i1, .inr (10, [.int 0, .int 0, .int 0, .ref i1x3, .ref i1x4, .ref i1x5, .ref i1x6, .int 0, .int 0, .ref i1x9, .ref i1x10, .int 0, .ref i1x12, .ref i1x13, .ref i1x14, .ref i1x15, .int 0, .ref i1x17, .ref i1x18, .ref i1x19])), (i1x3, .inl (k 0, 10, .inl f1x3)), (i1x4, .inl (k 0, 10, .inl f1x4)), (i1x5, .inl (k 0, 10, .inl f1x5)), (i1x6, .inl (k 0, 10, .inl f1x6)), (i1x9, .inl (k 0, 4, .inl f1x9)), (i1x10, .inl (k 0, 4, .inl f1x10)), (i1x12, .inl (k 0, 6, .inl f1x12)), (i1x13, .inl (k 0, 6, .inl f1x13)), (i1x14, .inl (k 0, 6, .inl f1x14)), (i1x15, .inl (k 0, 6, .inl f1x15)), (i1x17, .inl (k 0, 2, .inl f1x17)), (i1x18, .inl (k 0, 2, .inl f1x18)), (i1x19, .inr (0, [.int 0, .ref i1xk1, .ref i1xk2, .ref i1xk3])), (i1xk1, .inl (k 0, 40, .inl f1xk1)), (i1xk2, .inl (k 0, 40, .inl f1xk2)), (i1xk3, .inl (k 0, 40, .inl f1xk3)), (i2, .inr (10, [.int 0, .int 0, .int 0, .ref i2x3, .ref i2x4, .ref i2x5, .ref i2x6, .int 0, .int 0, .ref i2x9, .ref i2x10, .int 0, .ref i2x12, .ref i2x13, .ref i2x14, .ref i2x15, .int 0, .ref i2x17, .ref i2x18, .ref i2x19])), (i2x3, .inl (k 0, 10, .inl f2x3)), (i2x4, .inl (k 0, 10, .inl f2x4)), (i2x5, .inl (k 0, 10, .inl f2x5)), (i2x6, .inl (k 0, 10, .inl f2x6)), (i2x9, .inl (k 0, 4, .inl f2x9)), (i2x10, .inl (k 0, 4, .inl f2x10)), (i2x12, .inl (k 0, 6, .inl f2x12)), (i2x13, .inl (k 0, 6, .inl f2x13)), (i2x14, .inl (k 0, 6, .inl f2x14)), (i2x15, .inl (k 0, 6, .inl f2x15)), (i2x17, .inl (k 0, 2, .inl f2x17)), (i2x18, .inl (k 0, 2, .inl f2x18)), (i2x19, .inr (0, [.int 0, .ref i2xk1, .ref i2xk2, .ref i2xk3])), (i2xk1, .inl (k 0, 40, .inl f2xk1)), (i2xk2, .inl (k 0, 40, .inl f2xk2)), (i2xk3, .inl (k 0, 40, .inl f2xk3))] sz [.ref g, .int p0]) (va_Qi (fun (r : Int32) (_ : Unit) => r = sp_image p0) (fun (_ : Unit) tZ => Bw D k (va_A [(g, .inr (11, [.ref g0, .ref g1, .ref g2, .int 0, .ref g4, .ref g5, .ref g6, .ref g7, .ref g8, .ref g9, .ref g10, .ref g11, .ref g12])), (g2, .inl (k 4, 3, .inr (.inr (.inr (.inr fi))))), (g1, .inr (10, [.int 0, .int 0, .int 0, .ref t3, .ref t4, .ref t5, .ref t6, .int 0, .int 0, .ref t9, .ref t10, .int 0, .ref t12, .ref t13, .ref t14, .ref t15, .int 0, .ref t17, .ref t18, .ref t19])), (t3, .inl (k 0, 10, .inl ft3)), (t4, .inl (k 0, 10, .inl ft4)), (t5, .inl (k 0, 10, .inl ft5)), (t6, .inl (k 0, 10, .inl ft6)), (t9, .inl (k 0, 4, .inl ft9)), (t10, .inl (k 0, 4, .inl ft10)), (t12, .inl (k 0, 6, .inl ft12)), (t13, .inl (k 0, 6, .inl ft13)), (t14, .inl (k 0, 6, .inl ft14)), (t15, .inl (k 0, 6, .inl ft15)), (t17, .inl (k 0, 2, .inl ft17)), (t18, .inl (k 0, 2, .inl ft18)), (t19, .inr (0, [.int 0, .ref tk1, .ref tk2, .ref tk3])), (tk1, .inl (k 0, 40, .inl ftk1)), (tk2, .inl (k 0, 40, .inl ftk2)), (tk3, .inl (k 0, 40, .inl ftk3)), (i0, .inr (10, [.int 0, .int 0, .int 0, .ref i0x3, .ref i0x4, .ref i0x5, .ref i0x6, .int 0, .int 0, .ref i0x9, .ref i0x10, .int 0, .ref i0x12, .ref i0x13, .ref i0x14, .ref i0x15, .int 0, .ref i0x17, .ref i0x18, .ref i0x19])), (i0x3, .inl (k 0, 10, .inl f0x3)), (i0x4, .inl (k 0, 10, .inl f0x4)), (i0x5, .inl (k 0, 10, .inl f0x5)), (i0x6, .inl (k 0, 10, .inl f0x6)), (i0x9, .inl (k 0, 4, .inl f0x9)), (i0x10, .inl (k 0, 4, .inl f0x10)), (i0x12, .inl (k 0, 6, .inl f0x12)), (i0x13, .inl (k 0, 6, .inl f0x13)), (i0x14, .inl (k 0, 6, .inl f0x14)), (i0x15, .inl (k 0, 6, .inl f0x15)), (i0x17, .inl (k 0, 2, .inl f0x17)), (i0x18, .inl (k 0, 2, .inl f0x18)), (i0x19, .inr (0, [.int 0, .ref i0xk1, .ref i0xk2, .ref i0xk3])), (i0xk1, .inl (k 0, 40, .inl f0xk1)), (i0xk2, .inl (k 0, 40, .inl f0xk2)), (i0xk3, .inl (k 0, 40, .inl f0xk3)), (i1, .inr (10, [.int 0, .int 0, .int 0, .ref i1x3, .ref i1x4, .ref i1x5, .ref i1x6, .int 0, .int 0, .ref i1x9, .ref i1x10, .int 0, .ref i1x12, .ref i1x13, .ref i1x14, .ref i1x15, .int 0, .ref i1x17, .ref i1x18, .ref i1x19])), (i1x3, .inl (k 0, 10, .inl f1x3)), (i1x4, .inl (k 0, 10, .inl f1x4)), (i1x5, .inl (k 0, 10, .inl f1x5)), (i1x6, .inl (k 0, 10, .inl f1x6)), (i1x9, .inl (k 0, 4, .inl f1x9)), (i1x10, .inl (k 0, 4, .inl f1x10)), (i1x12, .inl (k 0, 6, .inl f1x12)), (i1x13, .inl (k 0, 6, .inl f1x13)), (i1x14, .inl (k 0, 6, .inl f1x14)), (i1x15, .inl (k 0, 6, .inl f1x15)), (i1x17, .inl (k 0, 2, .inl f1x17)), (i1x18, .inl (k 0, 2, .inl f1x18)), (i1x19, .inr (0, [.int 0, .ref i1xk1, .ref i1xk2, .ref i1xk3])), (i1xk1, .inl (k 0, 40, .inl f1xk1)), (i1xk2, .inl (k 0, 40, .inl f1xk2)), (i1xk3, .inl (k 0, 40, .inl f1xk3)), (i2, .inr (10, [.int 0, .int 0, .int 0, .ref i2x3, .ref i2x4, .ref i2x5, .ref i2x6, .int 0, .int 0, .ref i2x9, .ref i2x10, .int 0, .ref i2x12, .ref i2x13, .ref i2x14, .ref i2x15, .int 0, .ref i2x17, .ref i2x18, .ref i2x19])), (i2x3, .inl (k 0, 10, .inl f2x3)), (i2x4, .inl (k 0, 10, .inl f2x4)), (i2x5, .inl (k 0, 10, .inl f2x5)), (i2x6, .inl (k 0, 10, .inl f2x6)), (i2x9, .inl (k 0, 4, .inl f2x9)), (i2x10, .inl (k 0, 4, .inl f2x10)), (i2x12, .inl (k 0, 6, .inl f2x12)), (i2x13, .inl (k 0, 6, .inl f2x13)), (i2x14, .inl (k 0, 6, .inl f2x14)), (i2x15, .inl (k 0, 6, .inl f2x15)), (i2x17, .inl (k 0, 2, .inl f2x17)), (i2x18, .inl (k 0, 2, .inl f2x18)), (i2x19, .inr (0, [.int 0, .ref i2xk1, .ref i2xk2, .ref i2xk3])), (i2xk1, .inl (k 0, 40, .inl f2xk1)), (i2xk2, .inl (k 0, 40, .inl f2xk2)), (i2xk3, .inl (k 0, 40, .inl f2xk3))] sz) [] tZ) (va_A [(g, .inr (11, [.ref g0, .ref g1, .ref g2, .int 0, .ref g4, .ref g5, .ref g6, .ref g7, .ref g8, .ref g9, .ref g10, .ref g11, .ref g12])), (g2, .inl (k 4, 3, .inr (.inr (.inr (.inr fi))))), (g1, .inr (10, [.int 0, .int 0, .int 0, .ref t3, .ref t4, .ref t5, .ref t6, .int 0, .int 0, .ref t9, .ref t10, .int 0, .ref t12, .ref t13, .ref t14, .ref t15, .int 0, .ref t17, .ref t18, .ref t19])), (t3, .inl (k 0, 10, .inl ft3)), (t4, .inl (k 0, 10, .inl ft4)), (t5, .inl (k 0, 10, .inl ft5)), (t6, .inl (k 0, 10, .inl ft6)), (t9, .inl (k 0, 4, .inl ft9)), (t10, .inl (k 0, 4, .inl ft10)), (t12, .inl (k 0, 6, .inl ft12)), (t13, .inl (k 0, 6, .inl ft13)), (t14, .inl (k 0, 6, .inl ft14)), (t15, .inl (k 0, 6, .inl ft15)), (t17, .inl (k 0, 2, .inl ft17)), (t18, .inl (k 0, 2, .inl ft18)), (t19, .inr (0, [.int 0, .ref tk1, .ref tk2, .ref tk3])), (tk1, .inl (k 0, 40, .inl ftk1)), (tk2, .inl (k 0, 40, .inl ftk2)), (tk3, .inl (k 0, 40, .inl ftk3)), (i0, .inr (10, [.int 0, .int 0, .int 0, .ref i0x3, .ref i0x4, .ref i0x5, .ref i0x6, .int 0, .int 0, .ref i0x9, .ref i0x10, .int 0, .ref i0x12, .ref i0x13, .ref i0x14, .ref i0x15, .int 0, .ref i0x17, .ref i0x18, .ref i0x19])), (i0x3, .inl (k 0, 10, .inl f0x3)), (i0x4, .inl (k 0, 10, .inl f0x4)), (i0x5, .inl (k 0, 10, .inl f0x5)), (i0x6, .inl (k 0, 10, .inl f0x6)), (i0x9, .inl (k 0, 4, .inl f0x9)), (i0x10, .inl (k 0, 4, .inl f0x10)), (i0x12, .inl (k 0, 6, .inl f0x12)), (i0x13, .inl (k 0, 6, .inl f0x13)), (i0x14, .inl (k 0, 6, .inl f0x14)), (i0x15, .inl (k 0, 6, .inl f0x15)), (i0x17, .inl (k 0, 2, .inl f0x17)), (i0x18, .inl (k 0, 2, .inl f0x18)), (i0x19, .inr (0, [.int 0, .ref i0xk1, .ref i0xk2, .ref i0xk3])), (i0xk1, .inl (k 0, 40, .inl f0xk1)), (i0xk2, .inl (k 0, 40, .inl f0xk2)), (i0xk3, .inl (k 0, 40, .inl f0xk3)), (i1, .inr (10, [.int 0, .int 0, .int 0, .ref i1x3, .ref i1x4, .ref i1x5, .ref i1x6, .int 0, .int 0, .ref i1x9, .ref i1x10, .int 0, .ref i1x12, .ref i1x13, .ref i1x14, .ref i1x15, .int 0, .ref i1x17, .ref i1x18, .ref i1x19])), (i1x3, .inl (k 0, 10, .inl f1x3)), (i1x4, .inl (k 0, 10, .inl f1x4)), (i1x5, .inl (k 0, 10, .inl f1x5)), (i1x6, .inl (k 0, 10, .inl f1x6)), (i1x9, .inl (k 0, 4, .inl f1x9)), (i1x10, .inl (k 0, 4, .inl f1x10)), (i1x12, .inl (k 0, 6, .inl f1x12)), (i1x13, .inl (k 0, 6, .inl f1x13)), (i1x14, .inl (k 0, 6, .inl f1x14)), (i1x15, .inl (k 0, 6, .inl f1x15)), (i1x17, .inl (k 0, 2, .inl f1x17)), (i1x18, .inl (k 0, 2, .inl f1x18)), (i1x19, .inr (0, [.int 0, .ref i1xk1, .ref i1xk2, .ref i1xk3])), (i1xk1, .inl (k 0, 40, .inl f1xk1)), (i1xk2, .inl (k 0, 40, .inl f1xk2)), (i1xk3, .inl (k 0, 40, .inl f1xk3)), (i2, .inr (10, [.int 0, .int 0, .int 0, .ref i2x3, .ref i2x4, .ref i2x5, .ref i2x6, .int 0, .int 0, .ref i2x9, .ref i2x10, .int 0, .ref i2x12, .ref i2x13, .ref i2x14, .ref i2x15, .int 0, .ref i2x17, .ref i2x18, .ref i2x19])), (i2x3, .inl (k 0, 10, .inl f2x3)), (i2x4, .inl (k 0, 10, .inl f2x4)), (i2x5, .inl (k 0, 10, .inl f2x5)), (i2x6, .inl (k 0, 10, .inl f2x6)), (i2x9, .inl (k 0, 4, .inl f2x9)), (i2x10, .inl (k 0, 4, .inl f2x10)), (i2x12, .inl (k 0, 6, .inl f2x12)), (i2x13, .inl (k 0, 6, .inl f2x13)), (i2x14, .inl (k 0, 6, .inl f2x14)), (i2x15, .inl (k 0, 6, .inl f2x15)), (i2x17, .inl (k 0, 2, .inl f2x17)), (i2x18, .inl (k 0, 2, .inl f2x18)), (i2x19, .inr (0, [.int 0, .ref i2xk1, .ref i2xk2, .ref i2xk3])), (i2xk1, .inl (k 0, 40, .inl f2xk1)), (i2xk2, .inl (k 0, 40, .inl f2xk2)), (i2xk3, .inl (k 0, 40, .inl f2xk3))] sz)) 0 0 (va_A [(g, .inr (11, [.ref g0, .ref g1, .ref g2, .int 0, .ref g4, .ref g5, .ref g6, .ref g7, .ref g8, .ref g9, .ref g10, .ref g11, .ref g12])), (g2, .inl (k 4, 3, .inr (.inr (.inr (.inr fi))))), (g1, .inr (10, [.int 0, .int 0, .int 0, .ref t3, .ref t4, .ref t5, .ref t6, .int 0, .int 0, .ref t9, .ref t10, .int 0, .ref t12, .ref t13, .ref t14, .ref t15, .int 0, .ref t17, .ref t18, .ref t19])), (t3, .inl (k 0, 10, .inl ft3)), (t4, .inl (k 0, 10, .inl ft4)), (t5, .inl (k 0, 10, .inl ft5)), (t6, .inl (k 0, 10, .inl ft6)), (t9, .inl (k 0, 4, .inl ft9)), (t10, .inl (k 0, 4, .inl ft10)), (t12, .inl (k 0, 6, .inl ft12)), (t13, .inl (k 0, 6, .inl ft13)), (t14, .inl (k 0, 6, .inl ft14)), (t15, .inl (k 0, 6, .inl ft15)), (t17, .inl (k 0, 2, .inl ft17)), (t18, .inl (k 0, 2, .inl ft18)), (t19, .inr (0, [.int 0, .ref tk1, .ref tk2, .ref tk3])), (tk1, .inl (k 0, 40, .inl ftk1)), (tk2, .inl (k 0, 40, .inl ftk2)), (tk3, .inl (k 0, 40, .inl ftk3)), (i0, .inr (10, [.int 0, .int 0, .int 0, .ref i0x3, .ref i0x4, .ref i0x5, .ref i0x6, .int 0, .int 0, .ref i0x9, .ref i0x10, .int 0, .ref i0x12, .ref i0x13, .ref i0x14, .ref i0x15, .int 0, .ref i0x17, .ref i0x18, .ref i0x19])), (i0x3, .inl (k 0, 10, .inl f0x3)), (i0x4, .inl (k 0, 10, .inl f0x4)), (i0x5, .inl (k 0, 10, .inl f0x5)), (i0x6, .inl (k 0, 10, .inl f0x6)), (i0x9, .inl (k 0, 4, .inl f0x9)), (i0x10, .inl (k 0, 4, .inl f0x10)), (i0x12, .inl (k 0, 6, .inl f0x12)), (i0x13, .inl (k 0, 6, .inl f0x13)), (i0x14, .inl (k 0, 6, .inl f0x14)), (i0x15, .inl (k 0, 6, .inl f0x15)), (i0x17, .inl (k 0, 2, .inl f0x17)), (i0x18, .inl (k 0, 2, .inl f0x18)), (i0x19, .inr (0, [.int 0, .ref i0xk1, .ref i0xk2, .ref i0xk3])), (i0xk1, .inl (k 0, 40, .inl f0xk1)), (i0xk2, .inl (k 0, 40, .inl f0xk2)), (i0xk3, .inl (k 0, 40, .inl f0xk3)), (i1, .inr (10, [.int 0, .int 0, .int 0, .ref i1x3, .ref i1x4, .ref i1x5, .ref i1x6, .int 0, .int 0, .ref i1x9, .ref i1x10, .int 0, .ref i1x12, .ref i1x13, .ref i1x14, .ref i1x15, .int 0, .ref i1x17, .ref i1x18, .ref i1x19])), (i1x3, .inl (k 0, 10, .inl f1x3)), (i1x4, .inl (k 0, 10, .inl f1x4)), (i1x5, .inl (k 0, 10, .inl f1x5)), (i1x6, .inl (k 0, 10, .inl f1x6)), (i1x9, .inl (k 0, 4, .inl f1x9)), (i1x10, .inl (k 0, 4, .inl f1x10)), (i1x12, .inl (k 0, 6, .inl f1x12)), (i1x13, .inl (k 0, 6, .inl f1x13)), (i1x14, .inl (k 0, 6, .inl f1x14)), (i1x15, .inl (k 0, 6, .inl f1x15)), (i1x17, .inl (k 0, 2, .inl f1x17)), (i1x18, .inl (k 0, 2, .inl f1x18)), (i1x19, .inr (0, [.int 0, .ref i1xk1, .ref i1xk2, .ref i1xk3])), (i1xk1, .inl (k 0, 40, .inl f1xk1)), (i1xk2, .inl (k 0, 40, .inl f1xk2)), (i1xk3, .inl (k 0, 40, .inl f1xk3)), (i2, .inr (10, [.int 0, .int 0, .int 0, .ref i2x3, .ref i2x4, .ref i2x5, .ref i2x6, .int 0, .int 0, .ref i2x9, .ref i2x10, .int 0, .ref i2x12, .ref i2x13, .ref i2x14, .ref i2x15, .int 0, .ref i2x17, .ref i2x18, .ref i2x19])), (i2x3, .inl (k 0, 10, .inl f2x3)), (i2x4, .inl (k 0, 10, .inl f2x4)), (i2x5, .inl (k 0, 10, .inl f2x5)), (i2x6, .inl (k 0, 10, .inl f2x6)), (i2x9, .inl (k 0, 4, .inl f2x9)), (i2x10, .inl (k 0, 4, .inl f2x10)), (i2x12, .inl (k 0, 6, .inl f2x12)), (i2x13, .inl (k 0, 6, .inl f2x13)), (i2x14, .inl (k 0, 6, .inl f2x14)), (i2x15, .inl (k 0, 6, .inl f2x15)), (i2x17, .inl (k 0, 2, .inl f2x17)), (i2x18, .inl (k 0, 2, .inl f2x18)), (i2x19, .inr (0, [.int 0, .ref i2xk1, .ref i2xk2, .ref i2xk3])), (i2xk1, .inl (k 0, 40, .inl f2xk1)), (i2xk2, .inl (k 0, 40, .inl f2xk2)), (i2xk3, .inl (k 0, 40, .inl f2xk3))] sz) := by
  refine Met.ofW (cc := cX11_image) (maxL := 2) (ret := (some .int)) (by decide +kernel) rfl ?_
  intro p e s m args below meth c s₁ B hml hv
  obtain ⟨rfl, hsz, hP, hK, hD0, hN⟩ := hv
  have hx := B.exec
  have hb := B.bytes
  have hr := B.returns
  have hts : ∀ w ∈ TT, w.before _ s = true := fun w h => atoms_spec (ws := ww yX11_image cX11_image 2 (some .int)) B.pre w (List.mem_cons_of_mem _ h)
  have hown : s.vm.findClass RX11 = some m.cls := findClass_of_methodNamed B.named
  have hlocks := B.notSynchronized
  subst hsz
  have hD := hD0.self (sz := s.heap.size)
  generalize hAe : va_A [(g, .inr (11, [.ref g0, .ref g1, .ref g2, .int 0, .ref g4, .ref g5, .ref g6, .ref g7, .ref g8, .ref g9, .ref g10, .ref g11, .ref g12])), (g2, .inl (k 4, 3, .inr (.inr (.inr (.inr fi))))), (g1, .inr (10, [.int 0, .int 0, .int 0, .ref t3, .ref t4, .ref t5, .ref t6, .int 0, .int 0, .ref t9, .ref t10, .int 0, .ref t12, .ref t13, .ref t14, .ref t15, .int 0, .ref t17, .ref t18, .ref t19])), (t3, .inl (k 0, 10, .inl ft3)), (t4, .inl (k 0, 10, .inl ft4)), (t5, .inl (k 0, 10, .inl ft5)), (t6, .inl (k 0, 10, .inl ft6)), (t9, .inl (k 0, 4, .inl ft9)), (t10, .inl (k 0, 4, .inl ft10)), (t12, .inl (k 0, 6, .inl ft12)), (t13, .inl (k 0, 6, .inl ft13)), (t14, .inl (k 0, 6, .inl ft14)), (t15, .inl (k 0, 6, .inl ft15)), (t17, .inl (k 0, 2, .inl ft17)), (t18, .inl (k 0, 2, .inl ft18)), (t19, .inr (0, [.int 0, .ref tk1, .ref tk2, .ref tk3])), (tk1, .inl (k 0, 40, .inl ftk1)), (tk2, .inl (k 0, 40, .inl ftk2)), (tk3, .inl (k 0, 40, .inl ftk3)), (i0, .inr (10, [.int 0, .int 0, .int 0, .ref i0x3, .ref i0x4, .ref i0x5, .ref i0x6, .int 0, .int 0, .ref i0x9, .ref i0x10, .int 0, .ref i0x12, .ref i0x13, .ref i0x14, .ref i0x15, .int 0, .ref i0x17, .ref i0x18, .ref i0x19])), (i0x3, .inl (k 0, 10, .inl f0x3)), (i0x4, .inl (k 0, 10, .inl f0x4)), (i0x5, .inl (k 0, 10, .inl f0x5)), (i0x6, .inl (k 0, 10, .inl f0x6)), (i0x9, .inl (k 0, 4, .inl f0x9)), (i0x10, .inl (k 0, 4, .inl f0x10)), (i0x12, .inl (k 0, 6, .inl f0x12)), (i0x13, .inl (k 0, 6, .inl f0x13)), (i0x14, .inl (k 0, 6, .inl f0x14)), (i0x15, .inl (k 0, 6, .inl f0x15)), (i0x17, .inl (k 0, 2, .inl f0x17)), (i0x18, .inl (k 0, 2, .inl f0x18)), (i0x19, .inr (0, [.int 0, .ref i0xk1, .ref i0xk2, .ref i0xk3])), (i0xk1, .inl (k 0, 40, .inl f0xk1)), (i0xk2, .inl (k 0, 40, .inl f0xk2)), (i0xk3, .inl (k 0, 40, .inl f0xk3)), (i1, .inr (10, [.int 0, .int 0, .int 0, .ref i1x3, .ref i1x4, .ref i1x5, .ref i1x6, .int 0, .int 0, .ref i1x9, .ref i1x10, .int 0, .ref i1x12, .ref i1x13, .ref i1x14, .ref i1x15, .int 0, .ref i1x17, .ref i1x18, .ref i1x19])), (i1x3, .inl (k 0, 10, .inl f1x3)), (i1x4, .inl (k 0, 10, .inl f1x4)), (i1x5, .inl (k 0, 10, .inl f1x5)), (i1x6, .inl (k 0, 10, .inl f1x6)), (i1x9, .inl (k 0, 4, .inl f1x9)), (i1x10, .inl (k 0, 4, .inl f1x10)), (i1x12, .inl (k 0, 6, .inl f1x12)), (i1x13, .inl (k 0, 6, .inl f1x13)), (i1x14, .inl (k 0, 6, .inl f1x14)), (i1x15, .inl (k 0, 6, .inl f1x15)), (i1x17, .inl (k 0, 2, .inl f1x17)), (i1x18, .inl (k 0, 2, .inl f1x18)), (i1x19, .inr (0, [.int 0, .ref i1xk1, .ref i1xk2, .ref i1xk3])), (i1xk1, .inl (k 0, 40, .inl f1xk1)), (i1xk2, .inl (k 0, 40, .inl f1xk2)), (i1xk3, .inl (k 0, 40, .inl f1xk3)), (i2, .inr (10, [.int 0, .int 0, .int 0, .ref i2x3, .ref i2x4, .ref i2x5, .ref i2x6, .int 0, .int 0, .ref i2x9, .ref i2x10, .int 0, .ref i2x12, .ref i2x13, .ref i2x14, .ref i2x15, .int 0, .ref i2x17, .ref i2x18, .ref i2x19])), (i2x3, .inl (k 0, 10, .inl f2x3)), (i2x4, .inl (k 0, 10, .inl f2x4)), (i2x5, .inl (k 0, 10, .inl f2x5)), (i2x6, .inl (k 0, 10, .inl f2x6)), (i2x9, .inl (k 0, 4, .inl f2x9)), (i2x10, .inl (k 0, 4, .inl f2x10)), (i2x12, .inl (k 0, 6, .inl f2x12)), (i2x13, .inl (k 0, 6, .inl f2x13)), (i2x14, .inl (k 0, 6, .inl f2x14)), (i2x15, .inl (k 0, 6, .inl f2x15)), (i2x17, .inl (k 0, 2, .inl f2x17)), (i2x18, .inl (k 0, 2, .inl f2x18)), (i2x19, .inr (0, [.int 0, .ref i2xk1, .ref i2xk2, .ref i2xk3])), (i2xk1, .inl (k 0, 40, .inl f2xk1)), (i2xk2, .inl (k 0, 40, .inl f2xk2)), (i2xk3, .inl (k 0, 40, .inl f2xk3))] s.heap.size = A at hD ⊢
  have hA : ∀ q : Nat, s.heap.size ≤ q → A q := fun q h => by rw [← hAe]; exact Or.inr h
  have hS : va_S A s.heap s.heap [] := va_S.rf
  have hl := lv_entry ([.ref g, .int p0]) (n := 2) (Nat.le_of_ble_eq_true rfl)
  rw [lg_entry_eq]
  generalize (lg_sl ([.ref g, .int p0]) ++ List.replicate (2 - (lg_sl ([.ref g, .int p0])).length) Slot.unset).toArray = ls at hl ⊢
  have hl : lv_has ls 2 [(0, .ref g), (1, .int p0)] := hl
  refine lv_iload_n hx hb dX11_image_0 rfl (lv_at hl 1 rfl) ?_
  refine lv_if_lt (tgt := 9) hx hb dX11_image_1 (by decide) (fun h_1 => ?_) (fun h_1 => ?_)
  · skip
    have zh_1 : p0.toInt < 0 := z_lt h_1
    refine lv_bipush (v := (-2)) hx hb dX11_image_9 (by decide) ?_
    have hP9 := hP.sub (ws' := []) [] rfl
    have hD9 := hD.sub (ws' := []) [] (by decide) rfl
    exact W.iret (v := (-2)) hx hb hr (fun tZ ht hW => ⟨⟨(-2), (), rfl, (show (-2) = sp_image p0 from by unfold sp_image; first | (rw [if_neg (by omega)]) | (rw [if_pos (by omega)])), by rw [ht]; exact hP9, va_K.moved hW.alike hK, hD9⟩, hS.F ht⟩) hS.2.2 dX11_image_11
  · skip
    have zh_1 : 0 ≤ p0.toInt := z_nlt h_1
    refine lv_iload_n hx hb dX11_image_4 rfl (lv_at hl 1 rfl) ?_
    refine lv_iconst (v := 3) hx hb dX11_image_5 (by decide) ?_
    refine lv_icmp_lt (tgt := 12) hx hb dX11_image_6 (by decide) (fun h_2 => ?_) (fun h_2 => ?_)
    · skip
      have zh_2 : p0.toInt < 3 := z_lt h_2
      rcases z_c3 p0 (by omega) (by omega) with rfl | rfl | rfl
      · skip
        refine lv_aload_n hx hb dX11_image_12 rfl (lv_at hl 0 rfl) ?_
        refine va_get (D := D) (ci := 11) (v := .ref g2) (C := RX11) (T := TX11) (N := 13) hx hb hts iT_X11 hown hK hP 0 rfl rfl 2 (by decide) (hts _ tw_2_172) (fun _ h9 => h9) rfl dX11_image_13 ?_
        refine lv_iload_n hx hb dX11_image_16 rfl (lv_at hl 1 rfl) ?_
        refine va_aldq hx hb hK hP 1 4 rfl rfl (z_in (by decide) (by decide)) dX11_image_17 ?_
        refine W.eq (g2 := F0 m 18 ls [.ref i0]) (by rw [show fi (0 : Int32).toNatClampNeg = some i0 from hf0]; rfl) ?_
        refine lv_aload_n hx hb dX11_image_18 rfl (lv_at hl 0 rfl) ?_
        refine va_get (D := D) (ci := 11) (v := .ref g1) (C := RX11) (T := TX11) (N := 13) hx hb hts iT_X11 hown hK hP 0 rfl rfl 1 (by decide) (hts _ tw_2_171) (fun _ h9 => h9) rfl dX11_image_19 ?_
        have hPc := hP.sub (ws' := [(i0, .inr (10, [.int 0, .int 0, .int 0, .ref i0x3, .ref i0x4, .ref i0x5, .ref i0x6, .int 0, .int 0, .ref i0x9, .ref i0x10, .int 0, .ref i0x12, .ref i0x13, .ref i0x14, .ref i0x15, .int 0, .ref i0x17, .ref i0x18, .ref i0x19])), (i0x3, .inl (k 0, 10, .inl f0x3)), (i0x4, .inl (k 0, 10, .inl f0x4)), (i0x5, .inl (k 0, 10, .inl f0x5)), (i0x6, .inl (k 0, 10, .inl f0x6)), (i0x9, .inl (k 0, 4, .inl f0x9)), (i0x10, .inl (k 0, 4, .inl f0x10)), (i0x12, .inl (k 0, 6, .inl f0x12)), (i0x13, .inl (k 0, 6, .inl f0x13)), (i0x14, .inl (k 0, 6, .inl f0x14)), (i0x15, .inl (k 0, 6, .inl f0x15)), (i0x17, .inl (k 0, 2, .inl f0x17)), (i0x18, .inl (k 0, 2, .inl f0x18)), (i0x19, .inr (0, [.int 0, .ref i0xk1, .ref i0xk2, .ref i0xk3])), (i0xk1, .inl (k 0, 40, .inl f0xk1)), (i0xk2, .inl (k 0, 40, .inl f0xk2)), (i0xk3, .inl (k 0, 40, .inl f0xk3)), (g1, .inr (10, [.int 0, .int 0, .int 0, .ref t3, .ref t4, .ref t5, .ref t6, .int 0, .int 0, .ref t9, .ref t10, .int 0, .ref t12, .ref t13, .ref t14, .ref t15, .int 0, .ref t17, .ref t18, .ref t19])), (t3, .inl (k 0, 10, .inl ft3)), (t4, .inl (k 0, 10, .inl ft4)), (t5, .inl (k 0, 10, .inl ft5)), (t6, .inl (k 0, 10, .inl ft6)), (t9, .inl (k 0, 4, .inl ft9)), (t10, .inl (k 0, 4, .inl ft10)), (t12, .inl (k 0, 6, .inl ft12)), (t13, .inl (k 0, 6, .inl ft13)), (t14, .inl (k 0, 6, .inl ft14)), (t15, .inl (k 0, 6, .inl ft15)), (t17, .inl (k 0, 2, .inl ft17)), (t18, .inl (k 0, 2, .inl ft18)), (t19, .inr (0, [.int 0, .ref tk1, .ref tk2, .ref tk3])), (tk1, .inl (k 0, 40, .inl ftk1)), (tk2, .inl (k 0, 40, .inl ftk2)), (tk3, .inl (k 0, 40, .inl ftk3))]) [19, 20, 21, 22, 23, 24, 25, 26, 27, 28, 29, 30, 31, 32, 33, 34, 35, 2, 3, 4, 5, 6, 7, 8, 9, 10, 11, 12, 13, 14, 15, 16, 17, 18] rfl
        have hDc := hD.sub (ws' := [(i0, .inr (10, [.int 0, .int 0, .int 0, .ref i0x3, .ref i0x4, .ref i0x5, .ref i0x6, .int 0, .int 0, .ref i0x9, .ref i0x10, .int 0, .ref i0x12, .ref i0x13, .ref i0x14, .ref i0x15, .int 0, .ref i0x17, .ref i0x18, .ref i0x19])), (i0x3, .inl (k 0, 10, .inl f0x3)), (i0x4, .inl (k 0, 10, .inl f0x4)), (i0x5, .inl (k 0, 10, .inl f0x5)), (i0x6, .inl (k 0, 10, .inl f0x6)), (i0x9, .inl (k 0, 4, .inl f0x9)), (i0x10, .inl (k 0, 4, .inl f0x10)), (i0x12, .inl (k 0, 6, .inl f0x12)), (i0x13, .inl (k 0, 6, .inl f0x13)), (i0x14, .inl (k 0, 6, .inl f0x14)), (i0x15, .inl (k 0, 6, .inl f0x15)), (i0x17, .inl (k 0, 2, .inl f0x17)), (i0x18, .inl (k 0, 2, .inl f0x18)), (i0x19, .inr (0, [.int 0, .ref i0xk1, .ref i0xk2, .ref i0xk3])), (i0xk1, .inl (k 0, 40, .inl f0xk1)), (i0xk2, .inl (k 0, 40, .inl f0xk2)), (i0xk3, .inl (k 0, 40, .inl f0xk3)), (g1, .inr (10, [.int 0, .int 0, .int 0, .ref t3, .ref t4, .ref t5, .ref t6, .int 0, .int 0, .ref t9, .ref t10, .int 0, .ref t12, .ref t13, .ref t14, .ref t15, .int 0, .ref t17, .ref t18, .ref t19])), (t3, .inl (k 0, 10, .inl ft3)), (t4, .inl (k 0, 10, .inl ft4)), (t5, .inl (k 0, 10, .inl ft5)), (t6, .inl (k 0, 10, .inl ft6)), (t9, .inl (k 0, 4, .inl ft9)), (t10, .inl (k 0, 4, .inl ft10)), (t12, .inl (k 0, 6, .inl ft12)), (t13, .inl (k 0, 6, .inl ft13)), (t14, .inl (k 0, 6, .inl ft14)), (t15, .inl (k 0, 6, .inl ft15)), (t17, .inl (k 0, 2, .inl ft17)), (t18, .inl (k 0, 2, .inl ft18)), (t19, .inr (0, [.int 0, .ref tk1, .ref tk2, .ref tk3])), (tk1, .inl (k 0, 40, .inl ftk1)), (tk2, .inl (k 0, 40, .inl ftk2)), (tk3, .inl (k 0, 40, .inl ftk3))]) [19, 20, 21, 22, 23, 24, 25, 26, 27, 28, 29, 30, 31, 32, 33, 34, 35, 2, 3, 4, 5, 6, 7, 8, 9, 10, 11, 12, 13, 14, 15, 16, 17, 18] (by decide) rfl
        have hFc := va_free (wc := [(i0, .inr (10, [.int 0, .int 0, .int 0, .ref i0x3, .ref i0x4, .ref i0x5, .ref i0x6, .int 0, .int 0, .ref i0x9, .ref i0x10, .int 0, .ref i0x12, .ref i0x13, .ref i0x14, .ref i0x15, .int 0, .ref i0x17, .ref i0x18, .ref i0x19])), (i0x3, .inl (k 0, 10, .inl f0x3)), (i0x4, .inl (k 0, 10, .inl f0x4)), (i0x5, .inl (k 0, 10, .inl f0x5)), (i0x6, .inl (k 0, 10, .inl f0x6)), (i0x9, .inl (k 0, 4, .inl f0x9)), (i0x10, .inl (k 0, 4, .inl f0x10)), (i0x12, .inl (k 0, 6, .inl f0x12)), (i0x13, .inl (k 0, 6, .inl f0x13)), (i0x14, .inl (k 0, 6, .inl f0x14)), (i0x15, .inl (k 0, 6, .inl f0x15)), (i0x17, .inl (k 0, 2, .inl f0x17)), (i0x18, .inl (k 0, 2, .inl f0x18)), (i0x19, .inr (0, [.int 0, .ref i0xk1, .ref i0xk2, .ref i0xk3])), (i0xk1, .inl (k 0, 40, .inl f0xk1)), (i0xk2, .inl (k 0, 40, .inl f0xk2)), (i0xk3, .inl (k 0, 40, .inl f0xk3)), (g1, .inr (10, [.int 0, .int 0, .int 0, .ref t3, .ref t4, .ref t5, .ref t6, .int 0, .int 0, .ref t9, .ref t10, .int 0, .ref t12, .ref t13, .ref t14, .ref t15, .int 0, .ref t17, .ref t18, .ref t19])), (t3, .inl (k 0, 10, .inl ft3)), (t4, .inl (k 0, 10, .inl ft4)), (t5, .inl (k 0, 10, .inl ft5)), (t6, .inl (k 0, 10, .inl ft6)), (t9, .inl (k 0, 4, .inl ft9)), (t10, .inl (k 0, 4, .inl ft10)), (t12, .inl (k 0, 6, .inl ft12)), (t13, .inl (k 0, 6, .inl ft13)), (t14, .inl (k 0, 6, .inl ft14)), (t15, .inl (k 0, 6, .inl ft15)), (t17, .inl (k 0, 2, .inl ft17)), (t18, .inl (k 0, 2, .inl ft18)), (t19, .inr (0, [.int 0, .ref tk1, .ref tk2, .ref tk3])), (tk1, .inl (k 0, 40, .inl ftk1)), (tk2, .inl (k 0, 40, .inl ftk2)), (tk3, .inl (k 0, 40, .inl ftk3))]) hD hS hA [19, 20, 21, 22, 23, 24, 25, 26, 27, 28, 29, 30, 31, 32, 33, 34, 35, 2, 3, 4, 5, 6, 7, 8, 9, 10, 11, 12, 13, 14, 15, 16, 17, 18] rfl
        refine va_callv (va_runV (C := RX10) (As := [.ref g1]) (rest := []) ⟨hx, hb, hml, hown, hts⟩ (c_X10_become l D k i0 g1 i0x3 i0x4 i0x5 i0x6 i0x9 i0x10 i0x12 i0x13 i0x14 i0x15 i0x17 i0x18 i0x19 f0x3 f0x4 f0x5 f0x6 f0x9 f0x10 f0x12 f0x13 f0x14 f0x15 f0x17 f0x18 i0xk1 i0xk2 i0xk3 f0xk1 f0xk2 f0xk3 t3 t4 t5 t6 t9 t10 t12 t13 t14 t15 t17 t18 t19 ft3 ft4 ft5 ft6 ft9 ft10 ft12 ft13 ft14 ft15 ft17 ft18 tk1 tk2 tk3 ftk1 ftk2 ftk3 s.heap.size) (cwV 1 hts (gV tw_5_238 tw_5_239 tw_6_0 tw_1_3 tw_6_1) rfl rfl rfl hdV_X10_become ⟨Nat.le_of_ble_eq_true rfl, Nat.le_of_ble_eq_true rfl⟩) (cz_V hK hPc hDc hN (ci := 10) (q0 := 0) rfl rfl [.ref g1]) rfl rfl hl.1 rfl (lv_room (Nat.le_of_ble_eq_true rfl)) dX11_image_22 ⟨Nat.le_of_ble_eq_true rfl, Nat.le_of_ble_eq_true rfl⟩) hS (fun q _ h => hFc q h) hFc (fun uZ tZ H1 locs ht hvm hw hB hz1 hk1 hS => ?_)
        obtain ⟨hP1, hK1, hD1⟩ := hB
        rw [ht] at hP1
        obtain ⟨hP, hD⟩ := va_join (wr := [(g, .inr (11, [.ref g0, .ref g1, .ref g2, .int 0, .ref g4, .ref g5, .ref g6, .ref g7, .ref g8, .ref g9, .ref g10, .ref g11, .ref g12])), (g2, .inl (k 4, 3, .inr (.inr (.inr (.inr fi))))), (i1, .inr (10, [.int 0, .int 0, .int 0, .ref i1x3, .ref i1x4, .ref i1x5, .ref i1x6, .int 0, .int 0, .ref i1x9, .ref i1x10, .int 0, .ref i1x12, .ref i1x13, .ref i1x14, .ref i1x15, .int 0, .ref i1x17, .ref i1x18, .ref i1x19])), (i1x3, .inl (k 0, 10, .inl f1x3)), (i1x4, .inl (k 0, 10, .inl f1x4)), (i1x5, .inl (k 0, 10, .inl f1x5)), (i1x6, .inl (k 0, 10, .inl f1x6)), (i1x9, .inl (k 0, 4, .inl f1x9)), (i1x10, .inl (k 0, 4, .inl f1x10)), (i1x12, .inl (k 0, 6, .inl f1x12)), (i1x13, .inl (k 0, 6, .inl f1x13)), (i1x14, .inl (k 0, 6, .inl f1x14)), (i1x15, .inl (k 0, 6, .inl f1x15)), (i1x17, .inl (k 0, 2, .inl f1x17)), (i1x18, .inl (k 0, 2, .inl f1x18)), (i1x19, .inr (0, [.int 0, .ref i1xk1, .ref i1xk2, .ref i1xk3])), (i1xk1, .inl (k 0, 40, .inl f1xk1)), (i1xk2, .inl (k 0, 40, .inl f1xk2)), (i1xk3, .inl (k 0, 40, .inl f1xk3)), (i2, .inr (10, [.int 0, .int 0, .int 0, .ref i2x3, .ref i2x4, .ref i2x5, .ref i2x6, .int 0, .int 0, .ref i2x9, .ref i2x10, .int 0, .ref i2x12, .ref i2x13, .ref i2x14, .ref i2x15, .int 0, .ref i2x17, .ref i2x18, .ref i2x19])), (i2x3, .inl (k 0, 10, .inl f2x3)), (i2x4, .inl (k 0, 10, .inl f2x4)), (i2x5, .inl (k 0, 10, .inl f2x5)), (i2x6, .inl (k 0, 10, .inl f2x6)), (i2x9, .inl (k 0, 4, .inl f2x9)), (i2x10, .inl (k 0, 4, .inl f2x10)), (i2x12, .inl (k 0, 6, .inl f2x12)), (i2x13, .inl (k 0, 6, .inl f2x13)), (i2x14, .inl (k 0, 6, .inl f2x14)), (i2x15, .inl (k 0, 6, .inl f2x15)), (i2x17, .inl (k 0, 2, .inl f2x17)), (i2x18, .inl (k 0, 2, .inl f2x18)), (i2x19, .inr (0, [.int 0, .ref i2xk1, .ref i2xk2, .ref i2xk3])), (i2xk1, .inl (k 0, 40, .inl f2xk1)), (i2xk2, .inl (k 0, 40, .inl f2xk2)), (i2xk3, .inl (k 0, 40, .inl f2xk3))]) (w1 := []) hP hD [19, 20, 21, 22, 23, 24, 25, 26, 27, 28, 29, 30, 31, 32, 33, 34, 35, 2, 3, 4, 5, 6, 7, 8, 9, 10, 11, 12, 13, 14, 15, 16, 17, 18] [0, 1, 36, 37, 38, 39, 40, 41, 42, 43, 44, 45, 46, 47, 48, 49, 50, 51, 52, 53, 54, 55, 56, 57, 58, 59, 60, 61, 62, 63, 64, 65, 66, 67, 68, 69] rfl rfl (by decide) (by decide) hk1 hFc hP1 hD1
        clear hK1 hP1 hD1 hPc hDc hFc
        clear hk1 hz1 ht hvm
        have hP : va_P D vwCl [(g, .inr (11, [.ref g0, .ref g1, .ref g2, .int 0, .ref g4, .ref g5, .ref g6, .ref g7, .ref g8, .ref g9, .ref g10, .ref g11, .ref g12])), (g2, .inl (k 4, 3, .inr (.inr (.inr (.inr fi))))), (i1, .inr (10, [.int 0, .int 0, .int 0, .ref i1x3, .ref i1x4, .ref i1x5, .ref i1x6, .int 0, .int 0, .ref i1x9, .ref i1x10, .int 0, .ref i1x12, .ref i1x13, .ref i1x14, .ref i1x15, .int 0, .ref i1x17, .ref i1x18, .ref i1x19])), (i1x3, .inl (k 0, 10, .inl f1x3)), (i1x4, .inl (k 0, 10, .inl f1x4)), (i1x5, .inl (k 0, 10, .inl f1x5)), (i1x6, .inl (k 0, 10, .inl f1x6)), (i1x9, .inl (k 0, 4, .inl f1x9)), (i1x10, .inl (k 0, 4, .inl f1x10)), (i1x12, .inl (k 0, 6, .inl f1x12)), (i1x13, .inl (k 0, 6, .inl f1x13)), (i1x14, .inl (k 0, 6, .inl f1x14)), (i1x15, .inl (k 0, 6, .inl f1x15)), (i1x17, .inl (k 0, 2, .inl f1x17)), (i1x18, .inl (k 0, 2, .inl f1x18)), (i1x19, .inr (0, [.int 0, .ref i1xk1, .ref i1xk2, .ref i1xk3])), (i1xk1, .inl (k 0, 40, .inl f1xk1)), (i1xk2, .inl (k 0, 40, .inl f1xk2)), (i1xk3, .inl (k 0, 40, .inl f1xk3)), (i2, .inr (10, [.int 0, .int 0, .int 0, .ref i2x3, .ref i2x4, .ref i2x5, .ref i2x6, .int 0, .int 0, .ref i2x9, .ref i2x10, .int 0, .ref i2x12, .ref i2x13, .ref i2x14, .ref i2x15, .int 0, .ref i2x17, .ref i2x18, .ref i2x19])), (i2x3, .inl (k 0, 10, .inl f2x3)), (i2x4, .inl (k 0, 10, .inl f2x4)), (i2x5, .inl (k 0, 10, .inl f2x5)), (i2x6, .inl (k 0, 10, .inl f2x6)), (i2x9, .inl (k 0, 4, .inl f2x9)), (i2x10, .inl (k 0, 4, .inl f2x10)), (i2x12, .inl (k 0, 6, .inl f2x12)), (i2x13, .inl (k 0, 6, .inl f2x13)), (i2x14, .inl (k 0, 6, .inl f2x14)), (i2x15, .inl (k 0, 6, .inl f2x15)), (i2x17, .inl (k 0, 2, .inl f2x17)), (i2x18, .inl (k 0, 2, .inl f2x18)), (i2x19, .inr (0, [.int 0, .ref i2xk1, .ref i2xk2, .ref i2xk3])), (i2xk1, .inl (k 0, 40, .inl f2xk1)), (i2xk2, .inl (k 0, 40, .inl f2xk2)), (i2xk3, .inl (k 0, 40, .inl f2xk3))] H1 := hP
        have hD : va_D A [(g, .inr (11, [.ref g0, .ref g1, .ref g2, .int 0, .ref g4, .ref g5, .ref g6, .ref g7, .ref g8, .ref g9, .ref g10, .ref g11, .ref g12])), (g2, .inl (k 4, 3, .inr (.inr (.inr (.inr fi))))), (i1, .inr (10, [.int 0, .int 0, .int 0, .ref i1x3, .ref i1x4, .ref i1x5, .ref i1x6, .int 0, .int 0, .ref i1x9, .ref i1x10, .int 0, .ref i1x12, .ref i1x13, .ref i1x14, .ref i1x15, .int 0, .ref i1x17, .ref i1x18, .ref i1x19])), (i1x3, .inl (k 0, 10, .inl f1x3)), (i1x4, .inl (k 0, 10, .inl f1x4)), (i1x5, .inl (k 0, 10, .inl f1x5)), (i1x6, .inl (k 0, 10, .inl f1x6)), (i1x9, .inl (k 0, 4, .inl f1x9)), (i1x10, .inl (k 0, 4, .inl f1x10)), (i1x12, .inl (k 0, 6, .inl f1x12)), (i1x13, .inl (k 0, 6, .inl f1x13)), (i1x14, .inl (k 0, 6, .inl f1x14)), (i1x15, .inl (k 0, 6, .inl f1x15)), (i1x17, .inl (k 0, 2, .inl f1x17)), (i1x18, .inl (k 0, 2, .inl f1x18)), (i1x19, .inr (0, [.int 0, .ref i1xk1, .ref i1xk2, .ref i1xk3])), (i1xk1, .inl (k 0, 40, .inl f1xk1)), (i1xk2, .inl (k 0, 40, .inl f1xk2)), (i1xk3, .inl (k 0, 40, .inl f1xk3)), (i2, .inr (10, [.int 0, .int 0, .int 0, .ref i2x3, .ref i2x4, .ref i2x5, .ref i2x6, .int 0, .int 0, .ref i2x9, .ref i2x10, .int 0, .ref i2x12, .ref i2x13, .ref i2x14, .ref i2x15, .int 0, .ref i2x17, .ref i2x18, .ref i2x19])), (i2x3, .inl (k 0, 10, .inl f2x3)), (i2x4, .inl (k 0, 10, .inl f2x4)), (i2x5, .inl (k 0, 10, .inl f2x5)), (i2x6, .inl (k 0, 10, .inl f2x6)), (i2x9, .inl (k 0, 4, .inl f2x9)), (i2x10, .inl (k 0, 4, .inl f2x10)), (i2x12, .inl (k 0, 6, .inl f2x12)), (i2x13, .inl (k 0, 6, .inl f2x13)), (i2x14, .inl (k 0, 6, .inl f2x14)), (i2x15, .inl (k 0, 6, .inl f2x15)), (i2x17, .inl (k 0, 2, .inl f2x17)), (i2x18, .inl (k 0, 2, .inl f2x18)), (i2x19, .inr (0, [.int 0, .ref i2xk1, .ref i2xk2, .ref i2xk3])), (i2xk1, .inl (k 0, 40, .inl f2xk1)), (i2xk2, .inl (k 0, 40, .inl f2xk2)), (i2xk3, .inl (k 0, 40, .inl f2xk3))] := hD
        generalize H1 = H at hP hS ⊢
        clear hw
        refine lv_aload_n hx hb dX11_image_25 rfl (lv_at hl 0 rfl) ?_
        refine lv_dup hx hb dX11_image_26 rfl ?_
        refine va_get (D := D) (ci := 11) (v := .int 0) (C := RX11) (T := TX11) (N := 13) hx hb hts iT_X11 hown hK hP 0 rfl rfl 3 (by decide) (hts _ tw_2_173) (fun _ h9 => h9) rfl dX11_image_27 ?_
        refine lv_iconst (v := 1) hx hb dX11_image_30 (by decide) ?_
        refine lv_iload_n hx hb dX11_image_31 rfl (lv_at hl 1 rfl) ?_
        refine lv_ishl hx hb dX11_image_32 ?_
        refine lv_topi (fun x_6 ex_6 => ?_)
        obtain rfl : x_6 = 1 := ex_6.trans (by decide)
        refine lv_ior hx hb dX11_image_33 ?_
        refine lv_topi (fun x_7 ex_7 => ?_)
        obtain rfl : x_7 = 1 := ex_7.trans (by decide)
        refine va_put (D := D) (ci := 11) (v := .int 1) (ty := tyX11 3) (C := RX11) (T := TX11) (N := 13) hx hb hts iT_X11 tyX11 tyX11_ok nmX11 hown hK hP hD hS 0 rfl rfl 3 (by decide) (hts _ tw_2_173) (fun _ h9 => h9) rfl (tyX11_ok 3 (by decide)) rfl rfl (Nat.le_of_ble_eq_true rfl) dX11_image_34 (fun H locs hP hD hS => ?_)
        have hP : va_P D vwCl [(g, .inr (11, [.ref g0, .ref g1, .ref g2, .int 1, .ref g4, .ref g5, .ref g6, .ref g7, .ref g8, .ref g9, .ref g10, .ref g11, .ref g12])), (g2, .inl (k 4, 3, .inr (.inr (.inr (.inr fi))))), (i1, .inr (10, [.int 0, .int 0, .int 0, .ref i1x3, .ref i1x4, .ref i1x5, .ref i1x6, .int 0, .int 0, .ref i1x9, .ref i1x10, .int 0, .ref i1x12, .ref i1x13, .ref i1x14, .ref i1x15, .int 0, .ref i1x17, .ref i1x18, .ref i1x19])), (i1x3, .inl (k 0, 10, .inl f1x3)), (i1x4, .inl (k 0, 10, .inl f1x4)), (i1x5, .inl (k 0, 10, .inl f1x5)), (i1x6, .inl (k 0, 10, .inl f1x6)), (i1x9, .inl (k 0, 4, .inl f1x9)), (i1x10, .inl (k 0, 4, .inl f1x10)), (i1x12, .inl (k 0, 6, .inl f1x12)), (i1x13, .inl (k 0, 6, .inl f1x13)), (i1x14, .inl (k 0, 6, .inl f1x14)), (i1x15, .inl (k 0, 6, .inl f1x15)), (i1x17, .inl (k 0, 2, .inl f1x17)), (i1x18, .inl (k 0, 2, .inl f1x18)), (i1x19, .inr (0, [.int 0, .ref i1xk1, .ref i1xk2, .ref i1xk3])), (i1xk1, .inl (k 0, 40, .inl f1xk1)), (i1xk2, .inl (k 0, 40, .inl f1xk2)), (i1xk3, .inl (k 0, 40, .inl f1xk3)), (i2, .inr (10, [.int 0, .int 0, .int 0, .ref i2x3, .ref i2x4, .ref i2x5, .ref i2x6, .int 0, .int 0, .ref i2x9, .ref i2x10, .int 0, .ref i2x12, .ref i2x13, .ref i2x14, .ref i2x15, .int 0, .ref i2x17, .ref i2x18, .ref i2x19])), (i2x3, .inl (k 0, 10, .inl f2x3)), (i2x4, .inl (k 0, 10, .inl f2x4)), (i2x5, .inl (k 0, 10, .inl f2x5)), (i2x6, .inl (k 0, 10, .inl f2x6)), (i2x9, .inl (k 0, 4, .inl f2x9)), (i2x10, .inl (k 0, 4, .inl f2x10)), (i2x12, .inl (k 0, 6, .inl f2x12)), (i2x13, .inl (k 0, 6, .inl f2x13)), (i2x14, .inl (k 0, 6, .inl f2x14)), (i2x15, .inl (k 0, 6, .inl f2x15)), (i2x17, .inl (k 0, 2, .inl f2x17)), (i2x18, .inl (k 0, 2, .inl f2x18)), (i2x19, .inr (0, [.int 0, .ref i2xk1, .ref i2xk2, .ref i2xk3])), (i2xk1, .inl (k 0, 40, .inl f2xk1)), (i2xk2, .inl (k 0, 40, .inl f2xk2)), (i2xk3, .inl (k 0, 40, .inl f2xk3))] H := hP
        have hD : va_D A [(g, .inr (11, [.ref g0, .ref g1, .ref g2, .int 1, .ref g4, .ref g5, .ref g6, .ref g7, .ref g8, .ref g9, .ref g10, .ref g11, .ref g12])), (g2, .inl (k 4, 3, .inr (.inr (.inr (.inr fi))))), (i1, .inr (10, [.int 0, .int 0, .int 0, .ref i1x3, .ref i1x4, .ref i1x5, .ref i1x6, .int 0, .int 0, .ref i1x9, .ref i1x10, .int 0, .ref i1x12, .ref i1x13, .ref i1x14, .ref i1x15, .int 0, .ref i1x17, .ref i1x18, .ref i1x19])), (i1x3, .inl (k 0, 10, .inl f1x3)), (i1x4, .inl (k 0, 10, .inl f1x4)), (i1x5, .inl (k 0, 10, .inl f1x5)), (i1x6, .inl (k 0, 10, .inl f1x6)), (i1x9, .inl (k 0, 4, .inl f1x9)), (i1x10, .inl (k 0, 4, .inl f1x10)), (i1x12, .inl (k 0, 6, .inl f1x12)), (i1x13, .inl (k 0, 6, .inl f1x13)), (i1x14, .inl (k 0, 6, .inl f1x14)), (i1x15, .inl (k 0, 6, .inl f1x15)), (i1x17, .inl (k 0, 2, .inl f1x17)), (i1x18, .inl (k 0, 2, .inl f1x18)), (i1x19, .inr (0, [.int 0, .ref i1xk1, .ref i1xk2, .ref i1xk3])), (i1xk1, .inl (k 0, 40, .inl f1xk1)), (i1xk2, .inl (k 0, 40, .inl f1xk2)), (i1xk3, .inl (k 0, 40, .inl f1xk3)), (i2, .inr (10, [.int 0, .int 0, .int 0, .ref i2x3, .ref i2x4, .ref i2x5, .ref i2x6, .int 0, .int 0, .ref i2x9, .ref i2x10, .int 0, .ref i2x12, .ref i2x13, .ref i2x14, .ref i2x15, .int 0, .ref i2x17, .ref i2x18, .ref i2x19])), (i2x3, .inl (k 0, 10, .inl f2x3)), (i2x4, .inl (k 0, 10, .inl f2x4)), (i2x5, .inl (k 0, 10, .inl f2x5)), (i2x6, .inl (k 0, 10, .inl f2x6)), (i2x9, .inl (k 0, 4, .inl f2x9)), (i2x10, .inl (k 0, 4, .inl f2x10)), (i2x12, .inl (k 0, 6, .inl f2x12)), (i2x13, .inl (k 0, 6, .inl f2x13)), (i2x14, .inl (k 0, 6, .inl f2x14)), (i2x15, .inl (k 0, 6, .inl f2x15)), (i2x17, .inl (k 0, 2, .inl f2x17)), (i2x18, .inl (k 0, 2, .inl f2x18)), (i2x19, .inr (0, [.int 0, .ref i2xk1, .ref i2xk2, .ref i2xk3])), (i2xk1, .inl (k 0, 40, .inl f2xk1)), (i2xk2, .inl (k 0, 40, .inl f2xk2)), (i2xk3, .inl (k 0, 40, .inl f2xk3))] := hD
        refine lv_iconst (v := 0) hx hb dX11_image_37 (by decide) ?_
        have hP9 := hP.sub (ws' := []) [] rfl
        have hD9 := hD.sub (ws' := []) [] (by decide) rfl
        exact W.iret (v := 0) hx hb hr (fun tZ ht hW => ⟨⟨0, (), rfl, (show 0 = sp_image 0 from by unfold sp_image; first | (rw [if_neg (by omega)]) | (rw [if_pos (by omega)])), by rw [ht]; exact hP9, va_K.moved hW.alike hK, hD9⟩, hS.F ht⟩) hS.2.2 dX11_image_38
      · skip
        refine lv_aload_n hx hb dX11_image_12 rfl (lv_at hl 0 rfl) ?_
        refine va_get (D := D) (ci := 11) (v := .ref g2) (C := RX11) (T := TX11) (N := 13) hx hb hts iT_X11 hown hK hP 0 rfl rfl 2 (by decide) (hts _ tw_2_172) (fun _ h9 => h9) rfl dX11_image_13 ?_
        refine lv_iload_n hx hb dX11_image_16 rfl (lv_at hl 1 rfl) ?_
        refine va_aldq hx hb hK hP 1 4 rfl rfl (z_in (by decide) (by decide)) dX11_image_17 ?_
        refine W.eq (g2 := F0 m 18 ls [.ref i1]) (by rw [show fi (1 : Int32).toNatClampNeg = some i1 from hf1]; rfl) ?_
        refine lv_aload_n hx hb dX11_image_18 rfl (lv_at hl 0 rfl) ?_
        refine va_get (D := D) (ci := 11) (v := .ref g1) (C := RX11) (T := TX11) (N := 13) hx hb hts iT_X11 hown hK hP 0 rfl rfl 1 (by decide) (hts _ tw_2_171) (fun _ h9 => h9) rfl dX11_image_19 ?_
        have hPc := hP.sub (ws' := [(i1, .inr (10, [.int 0, .int 0, .int 0, .ref i1x3, .ref i1x4, .ref i1x5, .ref i1x6, .int 0, .int 0, .ref i1x9, .ref i1x10, .int 0, .ref i1x12, .ref i1x13, .ref i1x14, .ref i1x15, .int 0, .ref i1x17, .ref i1x18, .ref i1x19])), (i1x3, .inl (k 0, 10, .inl f1x3)), (i1x4, .inl (k 0, 10, .inl f1x4)), (i1x5, .inl (k 0, 10, .inl f1x5)), (i1x6, .inl (k 0, 10, .inl f1x6)), (i1x9, .inl (k 0, 4, .inl f1x9)), (i1x10, .inl (k 0, 4, .inl f1x10)), (i1x12, .inl (k 0, 6, .inl f1x12)), (i1x13, .inl (k 0, 6, .inl f1x13)), (i1x14, .inl (k 0, 6, .inl f1x14)), (i1x15, .inl (k 0, 6, .inl f1x15)), (i1x17, .inl (k 0, 2, .inl f1x17)), (i1x18, .inl (k 0, 2, .inl f1x18)), (i1x19, .inr (0, [.int 0, .ref i1xk1, .ref i1xk2, .ref i1xk3])), (i1xk1, .inl (k 0, 40, .inl f1xk1)), (i1xk2, .inl (k 0, 40, .inl f1xk2)), (i1xk3, .inl (k 0, 40, .inl f1xk3)), (g1, .inr (10, [.int 0, .int 0, .int 0, .ref t3, .ref t4, .ref t5, .ref t6, .int 0, .int 0, .ref t9, .ref t10, .int 0, .ref t12, .ref t13, .ref t14, .ref t15, .int 0, .ref t17, .ref t18, .ref t19])), (t3, .inl (k 0, 10, .inl ft3)), (t4, .inl (k 0, 10, .inl ft4)), (t5, .inl (k 0, 10, .inl ft5)), (t6, .inl (k 0, 10, .inl ft6)), (t9, .inl (k 0, 4, .inl ft9)), (t10, .inl (k 0, 4, .inl ft10)), (t12, .inl (k 0, 6, .inl ft12)), (t13, .inl (k 0, 6, .inl ft13)), (t14, .inl (k 0, 6, .inl ft14)), (t15, .inl (k 0, 6, .inl ft15)), (t17, .inl (k 0, 2, .inl ft17)), (t18, .inl (k 0, 2, .inl ft18)), (t19, .inr (0, [.int 0, .ref tk1, .ref tk2, .ref tk3])), (tk1, .inl (k 0, 40, .inl ftk1)), (tk2, .inl (k 0, 40, .inl ftk2)), (tk3, .inl (k 0, 40, .inl ftk3))]) [36, 37, 38, 39, 40, 41, 42, 43, 44, 45, 46, 47, 48, 49, 50, 51, 52, 2, 3, 4, 5, 6, 7, 8, 9, 10, 11, 12, 13, 14, 15, 16, 17, 18] rfl
        have hDc := hD.sub (ws' := [(i1, .inr (10, [.int 0, .int 0, .int 0, .ref i1x3, .ref i1x4, .ref i1x5, .ref i1x6, .int 0, .int 0, .ref i1x9, .ref i1x10, .int 0, .ref i1x12, .ref i1x13, .ref i1x14, .ref i1x15, .int 0, .ref i1x17, .ref i1x18, .ref i1x19])), (i1x3, .inl (k 0, 10, .inl f1x3)), (i1x4, .inl (k 0, 10, .inl f1x4)), (i1x5, .inl (k 0, 10, .inl f1x5)), (i1x6, .inl (k 0, 10, .inl f1x6)), (i1x9, .inl (k 0, 4, .inl f1x9)), (i1x10, .inl (k 0, 4, .inl f1x10)), (i1x12, .inl (k 0, 6, .inl f1x12)), (i1x13, .inl (k 0, 6, .inl f1x13)), (i1x14, .inl (k 0, 6, .inl f1x14)), (i1x15, .inl (k 0, 6, .inl f1x15)), (i1x17, .inl (k 0, 2, .inl f1x17)), (i1x18, .inl (k 0, 2, .inl f1x18)), (i1x19, .inr (0, [.int 0, .ref i1xk1, .ref i1xk2, .ref i1xk3])), (i1xk1, .inl (k 0, 40, .inl f1xk1)), (i1xk2, .inl (k 0, 40, .inl f1xk2)), (i1xk3, .inl (k 0, 40, .inl f1xk3)), (g1, .inr (10, [.int 0, .int 0, .int 0, .ref t3, .ref t4, .ref t5, .ref t6, .int 0, .int 0, .ref t9, .ref t10, .int 0, .ref t12, .ref t13, .ref t14, .ref t15, .int 0, .ref t17, .ref t18, .ref t19])), (t3, .inl (k 0, 10, .inl ft3)), (t4, .inl (k 0, 10, .inl ft4)), (t5, .inl (k 0, 10, .inl ft5)), (t6, .inl (k 0, 10, .inl ft6)), (t9, .inl (k 0, 4, .inl ft9)), (t10, .inl (k 0, 4, .inl ft10)), (t12, .inl (k 0, 6, .inl ft12)), (t13, .inl (k 0, 6, .inl ft13)), (t14, .inl (k 0, 6, .inl ft14)), (t15, .inl (k 0, 6, .inl ft15)), (t17, .inl (k 0, 2, .inl ft17)), (t18, .inl (k 0, 2, .inl ft18)), (t19, .inr (0, [.int 0, .ref tk1, .ref tk2, .ref tk3])), (tk1, .inl (k 0, 40, .inl ftk1)), (tk2, .inl (k 0, 40, .inl ftk2)), (tk3, .inl (k 0, 40, .inl ftk3))]) [36, 37, 38, 39, 40, 41, 42, 43, 44, 45, 46, 47, 48, 49, 50, 51, 52, 2, 3, 4, 5, 6, 7, 8, 9, 10, 11, 12, 13, 14, 15, 16, 17, 18] (by decide) rfl
        have hFc := va_free (wc := [(i1, .inr (10, [.int 0, .int 0, .int 0, .ref i1x3, .ref i1x4, .ref i1x5, .ref i1x6, .int 0, .int 0, .ref i1x9, .ref i1x10, .int 0, .ref i1x12, .ref i1x13, .ref i1x14, .ref i1x15, .int 0, .ref i1x17, .ref i1x18, .ref i1x19])), (i1x3, .inl (k 0, 10, .inl f1x3)), (i1x4, .inl (k 0, 10, .inl f1x4)), (i1x5, .inl (k 0, 10, .inl f1x5)), (i1x6, .inl (k 0, 10, .inl f1x6)), (i1x9, .inl (k 0, 4, .inl f1x9)), (i1x10, .inl (k 0, 4, .inl f1x10)), (i1x12, .inl (k 0, 6, .inl f1x12)), (i1x13, .inl (k 0, 6, .inl f1x13)), (i1x14, .inl (k 0, 6, .inl f1x14)), (i1x15, .inl (k 0, 6, .inl f1x15)), (i1x17, .inl (k 0, 2, .inl f1x17)), (i1x18, .inl (k 0, 2, .inl f1x18)), (i1x19, .inr (0, [.int 0, .ref i1xk1, .ref i1xk2, .ref i1xk3])), (i1xk1, .inl (k 0, 40, .inl f1xk1)), (i1xk2, .inl (k 0, 40, .inl f1xk2)), (i1xk3, .inl (k 0, 40, .inl f1xk3)), (g1, .inr (10, [.int 0, .int 0, .int 0, .ref t3, .ref t4, .ref t5, .ref t6, .int 0, .int 0, .ref t9, .ref t10, .int 0, .ref t12, .ref t13, .ref t14, .ref t15, .int 0, .ref t17, .ref t18, .ref t19])), (t3, .inl (k 0, 10, .inl ft3)), (t4, .inl (k 0, 10, .inl ft4)), (t5, .inl (k 0, 10, .inl ft5)), (t6, .inl (k 0, 10, .inl ft6)), (t9, .inl (k 0, 4, .inl ft9)), (t10, .inl (k 0, 4, .inl ft10)), (t12, .inl (k 0, 6, .inl ft12)), (t13, .inl (k 0, 6, .inl ft13)), (t14, .inl (k 0, 6, .inl ft14)), (t15, .inl (k 0, 6, .inl ft15)), (t17, .inl (k 0, 2, .inl ft17)), (t18, .inl (k 0, 2, .inl ft18)), (t19, .inr (0, [.int 0, .ref tk1, .ref tk2, .ref tk3])), (tk1, .inl (k 0, 40, .inl ftk1)), (tk2, .inl (k 0, 40, .inl ftk2)), (tk3, .inl (k 0, 40, .inl ftk3))]) hD hS hA [36, 37, 38, 39, 40, 41, 42, 43, 44, 45, 46, 47, 48, 49, 50, 51, 52, 2, 3, 4, 5, 6, 7, 8, 9, 10, 11, 12, 13, 14, 15, 16, 17, 18] rfl
        refine va_callv (va_runV (C := RX10) (As := [.ref g1]) (rest := []) ⟨hx, hb, hml, hown, hts⟩ (c_X10_become l D k i1 g1 i1x3 i1x4 i1x5 i1x6 i1x9 i1x10 i1x12 i1x13 i1x14 i1x15 i1x17 i1x18 i1x19 f1x3 f1x4 f1x5 f1x6 f1x9 f1x10 f1x12 f1x13 f1x14 f1x15 f1x17 f1x18 i1xk1 i1xk2 i1xk3 f1xk1 f1xk2 f1xk3 t3 t4 t5 t6 t9 t10 t12 t13 t14 t15 t17 t18 t19 ft3 ft4 ft5 ft6 ft9 ft10 ft12 ft13 ft14 ft15 ft17 ft18 tk1 tk2 tk3 ftk1 ftk2 ftk3 s.heap.size) (cwV 1 hts (gV tw_5_238 tw_5_239 tw_6_0 tw_1_3 tw_6_1) rfl rfl rfl hdV_X10_become ⟨Nat.le_of_ble_eq_true rfl, Nat.le_of_ble_eq_true rfl⟩) (cz_V hK hPc hDc hN (ci := 10) (q0 := 0) rfl rfl [.ref g1]) rfl rfl hl.1 rfl (lv_room (Nat.le_of_ble_eq_true rfl)) dX11_image_22 ⟨Nat.le_of_ble_eq_true rfl, Nat.le_of_ble_eq_true rfl⟩) hS (fun q _ h => hFc q h) hFc (fun uZ tZ H1 locs ht hvm hw hB hz1 hk1 hS => ?_)
        obtain ⟨hP1, hK1, hD1⟩ := hB
        rw [ht] at hP1
        obtain ⟨hP, hD⟩ := va_join (wr := [(g, .inr (11, [.ref g0, .ref g1, .ref g2, .int 0, .ref g4, .ref g5, .ref g6, .ref g7, .ref g8, .ref g9, .ref g10, .ref g11, .ref g12])), (g2, .inl (k 4, 3, .inr (.inr (.inr (.inr fi))))), (i0, .inr (10, [.int 0, .int 0, .int 0, .ref i0x3, .ref i0x4, .ref i0x5, .ref i0x6, .int 0, .int 0, .ref i0x9, .ref i0x10, .int 0, .ref i0x12, .ref i0x13, .ref i0x14, .ref i0x15, .int 0, .ref i0x17, .ref i0x18, .ref i0x19])), (i0x3, .inl (k 0, 10, .inl f0x3)), (i0x4, .inl (k 0, 10, .inl f0x4)), (i0x5, .inl (k 0, 10, .inl f0x5)), (i0x6, .inl (k 0, 10, .inl f0x6)), (i0x9, .inl (k 0, 4, .inl f0x9)), (i0x10, .inl (k 0, 4, .inl f0x10)), (i0x12, .inl (k 0, 6, .inl f0x12)), (i0x13, .inl (k 0, 6, .inl f0x13)), (i0x14, .inl (k 0, 6, .inl f0x14)), (i0x15, .inl (k 0, 6, .inl f0x15)), (i0x17, .inl (k 0, 2, .inl f0x17)), (i0x18, .inl (k 0, 2, .inl f0x18)), (i0x19, .inr (0, [.int 0, .ref i0xk1, .ref i0xk2, .ref i0xk3])), (i0xk1, .inl (k 0, 40, .inl f0xk1)), (i0xk2, .inl (k 0, 40, .inl f0xk2)), (i0xk3, .inl (k 0, 40, .inl f0xk3)), (i2, .inr (10, [.int 0, .int 0, .int 0, .ref i2x3, .ref i2x4, .ref i2x5, .ref i2x6, .int 0, .int 0, .ref i2x9, .ref i2x10, .int 0, .ref i2x12, .ref i2x13, .ref i2x14, .ref i2x15, .int 0, .ref i2x17, .ref i2x18, .ref i2x19])), (i2x3, .inl (k 0, 10, .inl f2x3)), (i2x4, .inl (k 0, 10, .inl f2x4)), (i2x5, .inl (k 0, 10, .inl f2x5)), (i2x6, .inl (k 0, 10, .inl f2x6)), (i2x9, .inl (k 0, 4, .inl f2x9)), (i2x10, .inl (k 0, 4, .inl f2x10)), (i2x12, .inl (k 0, 6, .inl f2x12)), (i2x13, .inl (k 0, 6, .inl f2x13)), (i2x14, .inl (k 0, 6, .inl f2x14)), (i2x15, .inl (k 0, 6, .inl f2x15)), (i2x17, .inl (k 0, 2, .inl f2x17)), (i2x18, .inl (k 0, 2, .inl f2x18)), (i2x19, .inr (0, [.int 0, .ref i2xk1, .ref i2xk2, .ref i2xk3])), (i2xk1, .inl (k 0, 40, .inl f2xk1)), (i2xk2, .inl (k 0, 40, .inl f2xk2)), (i2xk3, .inl (k 0, 40, .inl f2xk3))]) (w1 := []) hP hD [36, 37, 38, 39, 40, 41, 42, 43, 44, 45, 46, 47, 48, 49, 50, 51, 52, 2, 3, 4, 5, 6, 7, 8, 9, 10, 11, 12, 13, 14, 15, 16, 17, 18] [0, 1, 19, 20, 21, 22, 23, 24, 25, 26, 27, 28, 29, 30, 31, 32, 33, 34, 35, 53, 54, 55, 56, 57, 58, 59, 60, 61, 62, 63, 64, 65, 66, 67, 68, 69] rfl rfl (by decide) (by decide) hk1 hFc hP1 hD1
        clear hK1 hP1 hD1 hPc hDc hFc
        clear hk1 hz1 ht hvm
        have hP : va_P D vwCl [(g, .inr (11, [.ref g0, .ref g1, .ref g2, .int 0, .ref g4, .ref g5, .ref g6, .ref g7, .ref g8, .ref g9, .ref g10, .ref g11, .ref g12])), (g2, .inl (k 4, 3, .inr (.inr (.inr (.inr fi))))), (i0, .inr (10, [.int 0, .int 0, .int 0, .ref i0x3, .ref i0x4, .ref i0x5, .ref i0x6, .int 0, .int 0, .ref i0x9, .ref i0x10, .int 0, .ref i0x12, .ref i0x13, .ref i0x14, .ref i0x15, .int 0, .ref i0x17, .ref i0x18, .ref i0x19])), (i0x3, .inl (k 0, 10, .inl f0x3)), (i0x4, .inl (k 0, 10, .inl f0x4)), (i0x5, .inl (k 0, 10, .inl f0x5)), (i0x6, .inl (k 0, 10, .inl f0x6)), (i0x9, .inl (k 0, 4, .inl f0x9)), (i0x10, .inl (k 0, 4, .inl f0x10)), (i0x12, .inl (k 0, 6, .inl f0x12)), (i0x13, .inl (k 0, 6, .inl f0x13)), (i0x14, .inl (k 0, 6, .inl f0x14)), (i0x15, .inl (k 0, 6, .inl f0x15)), (i0x17, .inl (k 0, 2, .inl f0x17)), (i0x18, .inl (k 0, 2, .inl f0x18)), (i0x19, .inr (0, [.int 0, .ref i0xk1, .ref i0xk2, .ref i0xk3])), (i0xk1, .inl (k 0, 40, .inl f0xk1)), (i0xk2, .inl (k 0, 40, .inl f0xk2)), (i0xk3, .inl (k 0, 40, .inl f0xk3)), (i2, .inr (10, [.int 0, .int 0, .int 0, .ref i2x3, .ref i2x4, .ref i2x5, .ref i2x6, .int 0, .int 0, .ref i2x9, .ref i2x10, .int 0, .ref i2x12, .ref i2x13, .ref i2x14, .ref i2x15, .int 0, .ref i2x17, .ref i2x18, .ref i2x19])), (i2x3, .inl (k 0, 10, .inl f2x3)), (i2x4, .inl (k 0, 10, .inl f2x4)), (i2x5, .inl (k 0, 10, .inl f2x5)), (i2x6, .inl (k 0, 10, .inl f2x6)), (i2x9, .inl (k 0, 4, .inl f2x9)), (i2x10, .inl (k 0, 4, .inl f2x10)), (i2x12, .inl (k 0, 6, .inl f2x12)), (i2x13, .inl (k 0, 6, .inl f2x13)), (i2x14, .inl (k 0, 6, .inl f2x14)), (i2x15, .inl (k 0, 6, .inl f2x15)), (i2x17, .inl (k 0, 2, .inl f2x17)), (i2x18, .inl (k 0, 2, .inl f2x18)), (i2x19, .inr (0, [.int 0, .ref i2xk1, .ref i2xk2, .ref i2xk3])), (i2xk1, .inl (k 0, 40, .inl f2xk1)), (i2xk2, .inl (k 0, 40, .inl f2xk2)), (i2xk3, .inl (k 0, 40, .inl f2xk3))] H1 := hP
        have hD : va_D A [(g, .inr (11, [.ref g0, .ref g1, .ref g2, .int 0, .ref g4, .ref g5, .ref g6, .ref g7, .ref g8, .ref g9, .ref g10, .ref g11, .ref g12])), (g2, .inl (k 4, 3, .inr (.inr (.inr (.inr fi))))), (i0, .inr (10, [.int 0, .int 0, .int 0, .ref i0x3, .ref i0x4, .ref i0x5, .ref i0x6, .int 0, .int 0, .ref i0x9, .ref i0x10, .int 0, .ref i0x12, .ref i0x13, .ref i0x14, .ref i0x15, .int 0, .ref i0x17, .ref i0x18, .ref i0x19])), (i0x3, .inl (k 0, 10, .inl f0x3)), (i0x4, .inl (k 0, 10, .inl f0x4)), (i0x5, .inl (k 0, 10, .inl f0x5)), (i0x6, .inl (k 0, 10, .inl f0x6)), (i0x9, .inl (k 0, 4, .inl f0x9)), (i0x10, .inl (k 0, 4, .inl f0x10)), (i0x12, .inl (k 0, 6, .inl f0x12)), (i0x13, .inl (k 0, 6, .inl f0x13)), (i0x14, .inl (k 0, 6, .inl f0x14)), (i0x15, .inl (k 0, 6, .inl f0x15)), (i0x17, .inl (k 0, 2, .inl f0x17)), (i0x18, .inl (k 0, 2, .inl f0x18)), (i0x19, .inr (0, [.int 0, .ref i0xk1, .ref i0xk2, .ref i0xk3])), (i0xk1, .inl (k 0, 40, .inl f0xk1)), (i0xk2, .inl (k 0, 40, .inl f0xk2)), (i0xk3, .inl (k 0, 40, .inl f0xk3)), (i2, .inr (10, [.int 0, .int 0, .int 0, .ref i2x3, .ref i2x4, .ref i2x5, .ref i2x6, .int 0, .int 0, .ref i2x9, .ref i2x10, .int 0, .ref i2x12, .ref i2x13, .ref i2x14, .ref i2x15, .int 0, .ref i2x17, .ref i2x18, .ref i2x19])), (i2x3, .inl (k 0, 10, .inl f2x3)), (i2x4, .inl (k 0, 10, .inl f2x4)), (i2x5, .inl (k 0, 10, .inl f2x5)), (i2x6, .inl (k 0, 10, .inl f2x6)), (i2x9, .inl (k 0, 4, .inl f2x9)), (i2x10, .inl (k 0, 4, .inl f2x10)), (i2x12, .inl (k 0, 6, .inl f2x12)), (i2x13, .inl (k 0, 6, .inl f2x13)), (i2x14, .inl (k 0, 6, .inl f2x14)), (i2x15, .inl (k 0, 6, .inl f2x15)), (i2x17, .inl (k 0, 2, .inl f2x17)), (i2x18, .inl (k 0, 2, .inl f2x18)), (i2x19, .inr (0, [.int 0, .ref i2xk1, .ref i2xk2, .ref i2xk3])), (i2xk1, .inl (k 0, 40, .inl f2xk1)), (i2xk2, .inl (k 0, 40, .inl f2xk2)), (i2xk3, .inl (k 0, 40, .inl f2xk3))] := hD
        generalize H1 = H at hP hS ⊢
        clear hw
        refine lv_aload_n hx hb dX11_image_25 rfl (lv_at hl 0 rfl) ?_
        refine lv_dup hx hb dX11_image_26 rfl ?_
        refine va_get (D := D) (ci := 11) (v := .int 0) (C := RX11) (T := TX11) (N := 13) hx hb hts iT_X11 hown hK hP 0 rfl rfl 3 (by decide) (hts _ tw_2_173) (fun _ h9 => h9) rfl dX11_image_27 ?_
        refine lv_iconst (v := 1) hx hb dX11_image_30 (by decide) ?_
        refine lv_iload_n hx hb dX11_image_31 rfl (lv_at hl 1 rfl) ?_
        refine lv_ishl hx hb dX11_image_32 ?_
        refine lv_topi (fun x_11 ex_11 => ?_)
        obtain rfl : x_11 = 2 := ex_11.trans (by decide)
        refine lv_ior hx hb dX11_image_33 ?_
        refine lv_topi (fun x_12 ex_12 => ?_)
        obtain rfl : x_12 = 2 := ex_12.trans (by decide)
        refine va_put (D := D) (ci := 11) (v := .int 2) (ty := tyX11 3) (C := RX11) (T := TX11) (N := 13) hx hb hts iT_X11 tyX11 tyX11_ok nmX11 hown hK hP hD hS 0 rfl rfl 3 (by decide) (hts _ tw_2_173) (fun _ h9 => h9) rfl (tyX11_ok 3 (by decide)) rfl rfl (Nat.le_of_ble_eq_true rfl) dX11_image_34 (fun H locs hP hD hS => ?_)
        have hP : va_P D vwCl [(g, .inr (11, [.ref g0, .ref g1, .ref g2, .int 2, .ref g4, .ref g5, .ref g6, .ref g7, .ref g8, .ref g9, .ref g10, .ref g11, .ref g12])), (g2, .inl (k 4, 3, .inr (.inr (.inr (.inr fi))))), (i0, .inr (10, [.int 0, .int 0, .int 0, .ref i0x3, .ref i0x4, .ref i0x5, .ref i0x6, .int 0, .int 0, .ref i0x9, .ref i0x10, .int 0, .ref i0x12, .ref i0x13, .ref i0x14, .ref i0x15, .int 0, .ref i0x17, .ref i0x18, .ref i0x19])), (i0x3, .inl (k 0, 10, .inl f0x3)), (i0x4, .inl (k 0, 10, .inl f0x4)), (i0x5, .inl (k 0, 10, .inl f0x5)), (i0x6, .inl (k 0, 10, .inl f0x6)), (i0x9, .inl (k 0, 4, .inl f0x9)), (i0x10, .inl (k 0, 4, .inl f0x10)), (i0x12, .inl (k 0, 6, .inl f0x12)), (i0x13, .inl (k 0, 6, .inl f0x13)), (i0x14, .inl (k 0, 6, .inl f0x14)), (i0x15, .inl (k 0, 6, .inl f0x15)), (i0x17, .inl (k 0, 2, .inl f0x17)), (i0x18, .inl (k 0, 2, .inl f0x18)), (i0x19, .inr (0, [.int 0, .ref i0xk1, .ref i0xk2, .ref i0xk3])), (i0xk1, .inl (k 0, 40, .inl f0xk1)), (i0xk2, .inl (k 0, 40, .inl f0xk2)), (i0xk3, .inl (k 0, 40, .inl f0xk3)), (i2, .inr (10, [.int 0, .int 0, .int 0, .ref i2x3, .ref i2x4, .ref i2x5, .ref i2x6, .int 0, .int 0, .ref i2x9, .ref i2x10, .int 0, .ref i2x12, .ref i2x13, .ref i2x14, .ref i2x15, .int 0, .ref i2x17, .ref i2x18, .ref i2x19])), (i2x3, .inl (k 0, 10, .inl f2x3)), (i2x4, .inl (k 0, 10, .inl f2x4)), (i2x5, .inl (k 0, 10, .inl f2x5)), (i2x6, .inl (k 0, 10, .inl f2x6)), (i2x9, .inl (k 0, 4, .inl f2x9)), (i2x10, .inl (k 0, 4, .inl f2x10)), (i2x12, .inl (k 0, 6, .inl f2x12)), (i2x13, .inl (k 0, 6, .inl f2x13)), (i2x14, .inl (k 0, 6, .inl f2x14)), (i2x15, .inl (k 0, 6, .inl f2x15)), (i2x17, .inl (k 0, 2, .inl f2x17)), (i2x18, .inl (k 0, 2, .inl f2x18)), (i2x19, .inr (0, [.int 0, .ref i2xk1, .ref i2xk2, .ref i2xk3])), (i2xk1, .inl (k 0, 40, .inl f2xk1)), (i2xk2, .inl (k 0, 40, .inl f2xk2)), (i2xk3, .inl (k 0, 40, .inl f2xk3))] H := hP
        have hD : va_D A [(g, .inr (11, [.ref g0, .ref g1, .ref g2, .int 2, .ref g4, .ref g5, .ref g6, .ref g7, .ref g8, .ref g9, .ref g10, .ref g11, .ref g12])), (g2, .inl (k 4, 3, .inr (.inr (.inr (.inr fi))))), (i0, .inr (10, [.int 0, .int 0, .int 0, .ref i0x3, .ref i0x4, .ref i0x5, .ref i0x6, .int 0, .int 0, .ref i0x9, .ref i0x10, .int 0, .ref i0x12, .ref i0x13, .ref i0x14, .ref i0x15, .int 0, .ref i0x17, .ref i0x18, .ref i0x19])), (i0x3, .inl (k 0, 10, .inl f0x3)), (i0x4, .inl (k 0, 10, .inl f0x4)), (i0x5, .inl (k 0, 10, .inl f0x5)), (i0x6, .inl (k 0, 10, .inl f0x6)), (i0x9, .inl (k 0, 4, .inl f0x9)), (i0x10, .inl (k 0, 4, .inl f0x10)), (i0x12, .inl (k 0, 6, .inl f0x12)), (i0x13, .inl (k 0, 6, .inl f0x13)), (i0x14, .inl (k 0, 6, .inl f0x14)), (i0x15, .inl (k 0, 6, .inl f0x15)), (i0x17, .inl (k 0, 2, .inl f0x17)), (i0x18, .inl (k 0, 2, .inl f0x18)), (i0x19, .inr (0, [.int 0, .ref i0xk1, .ref i0xk2, .ref i0xk3])), (i0xk1, .inl (k 0, 40, .inl f0xk1)), (i0xk2, .inl (k 0, 40, .inl f0xk2)), (i0xk3, .inl (k 0, 40, .inl f0xk3)), (i2, .inr (10, [.int 0, .int 0, .int 0, .ref i2x3, .ref i2x4, .ref i2x5, .ref i2x6, .int 0, .int 0, .ref i2x9, .ref i2x10, .int 0, .ref i2x12, .ref i2x13, .ref i2x14, .ref i2x15, .int 0, .ref i2x17, .ref i2x18, .ref i2x19])), (i2x3, .inl (k 0, 10, .inl f2x3)), (i2x4, .inl (k 0, 10, .inl f2x4)), (i2x5, .inl (k 0, 10, .inl f2x5)), (i2x6, .inl (k 0, 10, .inl f2x6)), (i2x9, .inl (k 0, 4, .inl f2x9)), (i2x10, .inl (k 0, 4, .inl f2x10)), (i2x12, .inl (k 0, 6, .inl f2x12)), (i2x13, .inl (k 0, 6, .inl f2x13)), (i2x14, .inl (k 0, 6, .inl f2x14)), (i2x15, .inl (k 0, 6, .inl f2x15)), (i2x17, .inl (k 0, 2, .inl f2x17)), (i2x18, .inl (k 0, 2, .inl f2x18)), (i2x19, .inr (0, [.int 0, .ref i2xk1, .ref i2xk2, .ref i2xk3])), (i2xk1, .inl (k 0, 40, .inl f2xk1)), (i2xk2, .inl (k 0, 40, .inl f2xk2)), (i2xk3, .inl (k 0, 40, .inl f2xk3))] := hD
        refine lv_iconst (v := 0) hx hb dX11_image_37 (by decide) ?_
        have hP9 := hP.sub (ws' := []) [] rfl
        have hD9 := hD.sub (ws' := []) [] (by decide) rfl
        exact W.iret (v := 0) hx hb hr (fun tZ ht hW => ⟨⟨0, (), rfl, (show 0 = sp_image 1 from by unfold sp_image; first | (rw [if_neg (by omega)]) | (rw [if_pos (by omega)])), by rw [ht]; exact hP9, va_K.moved hW.alike hK, hD9⟩, hS.F ht⟩) hS.2.2 dX11_image_38
      · skip
        refine lv_aload_n hx hb dX11_image_12 rfl (lv_at hl 0 rfl) ?_
        refine va_get (D := D) (ci := 11) (v := .ref g2) (C := RX11) (T := TX11) (N := 13) hx hb hts iT_X11 hown hK hP 0 rfl rfl 2 (by decide) (hts _ tw_2_172) (fun _ h9 => h9) rfl dX11_image_13 ?_
        refine lv_iload_n hx hb dX11_image_16 rfl (lv_at hl 1 rfl) ?_
        refine va_aldq hx hb hK hP 1 4 rfl rfl (z_in (by decide) (by decide)) dX11_image_17 ?_
        refine W.eq (g2 := F0 m 18 ls [.ref i2]) (by rw [show fi (2 : Int32).toNatClampNeg = some i2 from hf2]; rfl) ?_
        refine lv_aload_n hx hb dX11_image_18 rfl (lv_at hl 0 rfl) ?_
        refine va_get (D := D) (ci := 11) (v := .ref g1) (C := RX11) (T := TX11) (N := 13) hx hb hts iT_X11 hown hK hP 0 rfl rfl 1 (by decide) (hts _ tw_2_171) (fun _ h9 => h9) rfl dX11_image_19 ?_
        have hPc := hP.sub (ws' := [(i2, .inr (10, [.int 0, .int 0, .int 0, .ref i2x3, .ref i2x4, .ref i2x5, .ref i2x6, .int 0, .int 0, .ref i2x9, .ref i2x10, .int 0, .ref i2x12, .ref i2x13, .ref i2x14, .ref i2x15, .int 0, .ref i2x17, .ref i2x18, .ref i2x19])), (i2x3, .inl (k 0, 10, .inl f2x3)), (i2x4, .inl (k 0, 10, .inl f2x4)), (i2x5, .inl (k 0, 10, .inl f2x5)), (i2x6, .inl (k 0, 10, .inl f2x6)), (i2x9, .inl (k 0, 4, .inl f2x9)), (i2x10, .inl (k 0, 4, .inl f2x10)), (i2x12, .inl (k 0, 6, .inl f2x12)), (i2x13, .inl (k 0, 6, .inl f2x13)), (i2x14, .inl (k 0, 6, .inl f2x14)), (i2x15, .inl (k 0, 6, .inl f2x15)), (i2x17, .inl (k 0, 2, .inl f2x17)), (i2x18, .inl (k 0, 2, .inl f2x18)), (i2x19, .inr (0, [.int 0, .ref i2xk1, .ref i2xk2, .ref i2xk3])), (i2xk1, .inl (k 0, 40, .inl f2xk1)), (i2xk2, .inl (k 0, 40, .inl f2xk2)), (i2xk3, .inl (k 0, 40, .inl f2xk3)), (g1, .inr (10, [.int 0, .int 0, .int 0, .ref t3, .ref t4, .ref t5, .ref t6, .int 0, .int 0, .ref t9, .ref t10, .int 0, .ref t12, .ref t13, .ref t14, .ref t15, .int 0, .ref t17, .ref t18, .ref t19])), (t3, .inl (k 0, 10, .inl ft3)), (t4, .inl (k 0, 10, .inl ft4)), (t5, .inl (k 0, 10, .inl ft5)), (t6, .inl (k 0, 10, .inl ft6)), (t9, .inl (k 0, 4, .inl ft9)), (t10, .inl (k 0, 4, .inl ft10)), (t12, .inl (k 0, 6, .inl ft12)), (t13, .inl (k 0, 6, .inl ft13)), (t14, .inl (k 0, 6, .inl ft14)), (t15, .inl (k 0, 6, .inl ft15)), (t17, .inl (k 0, 2, .inl ft17)), (t18, .inl (k 0, 2, .inl ft18)), (t19, .inr (0, [.int 0, .ref tk1, .ref tk2, .ref tk3])), (tk1, .inl (k 0, 40, .inl ftk1)), (tk2, .inl (k 0, 40, .inl ftk2)), (tk3, .inl (k 0, 40, .inl ftk3))]) [53, 54, 55, 56, 57, 58, 59, 60, 61, 62, 63, 64, 65, 66, 67, 68, 69, 2, 3, 4, 5, 6, 7, 8, 9, 10, 11, 12, 13, 14, 15, 16, 17, 18] rfl
        have hDc := hD.sub (ws' := [(i2, .inr (10, [.int 0, .int 0, .int 0, .ref i2x3, .ref i2x4, .ref i2x5, .ref i2x6, .int 0, .int 0, .ref i2x9, .ref i2x10, .int 0, .ref i2x12, .ref i2x13, .ref i2x14, .ref i2x15, .int 0, .ref i2x17, .ref i2x18, .ref i2x19])), (i2x3, .inl (k 0, 10, .inl f2x3)), (i2x4, .inl (k 0, 10, .inl f2x4)), (i2x5, .inl (k 0, 10, .inl f2x5)), (i2x6, .inl (k 0, 10, .inl f2x6)), (i2x9, .inl (k 0, 4, .inl f2x9)), (i2x10, .inl (k 0, 4, .inl f2x10)), (i2x12, .inl (k 0, 6, .inl f2x12)), (i2x13, .inl (k 0, 6, .inl f2x13)), (i2x14, .inl (k 0, 6, .inl f2x14)), (i2x15, .inl (k 0, 6, .inl f2x15)), (i2x17, .inl (k 0, 2, .inl f2x17)), (i2x18, .inl (k 0, 2, .inl f2x18)), (i2x19, .inr (0, [.int 0, .ref i2xk1, .ref i2xk2, .ref i2xk3])), (i2xk1, .inl (k 0, 40, .inl f2xk1)), (i2xk2, .inl (k 0, 40, .inl f2xk2)), (i2xk3, .inl (k 0, 40, .inl f2xk3)), (g1, .inr (10, [.int 0, .int 0, .int 0, .ref t3, .ref t4, .ref t5, .ref t6, .int 0, .int 0, .ref t9, .ref t10, .int 0, .ref t12, .ref t13, .ref t14, .ref t15, .int 0, .ref t17, .ref t18, .ref t19])), (t3, .inl (k 0, 10, .inl ft3)), (t4, .inl (k 0, 10, .inl ft4)), (t5, .inl (k 0, 10, .inl ft5)), (t6, .inl (k 0, 10, .inl ft6)), (t9, .inl (k 0, 4, .inl ft9)), (t10, .inl (k 0, 4, .inl ft10)), (t12, .inl (k 0, 6, .inl ft12)), (t13, .inl (k 0, 6, .inl ft13)), (t14, .inl (k 0, 6, .inl ft14)), (t15, .inl (k 0, 6, .inl ft15)), (t17, .inl (k 0, 2, .inl ft17)), (t18, .inl (k 0, 2, .inl ft18)), (t19, .inr (0, [.int 0, .ref tk1, .ref tk2, .ref tk3])), (tk1, .inl (k 0, 40, .inl ftk1)), (tk2, .inl (k 0, 40, .inl ftk2)), (tk3, .inl (k 0, 40, .inl ftk3))]) [53, 54, 55, 56, 57, 58, 59, 60, 61, 62, 63, 64, 65, 66, 67, 68, 69, 2, 3, 4, 5, 6, 7, 8, 9, 10, 11, 12, 13, 14, 15, 16, 17, 18] (by decide) rfl
        have hFc := va_free (wc := [(i2, .inr (10, [.int 0, .int 0, .int 0, .ref i2x3, .ref i2x4, .ref i2x5, .ref i2x6, .int 0, .int 0, .ref i2x9, .ref i2x10, .int 0, .ref i2x12, .ref i2x13, .ref i2x14, .ref i2x15, .int 0, .ref i2x17, .ref i2x18, .ref i2x19])), (i2x3, .inl (k 0, 10, .inl f2x3)), (i2x4, .inl (k 0, 10, .inl f2x4)), (i2x5, .inl (k 0, 10, .inl f2x5)), (i2x6, .inl (k 0, 10, .inl f2x6)), (i2x9, .inl (k 0, 4, .inl f2x9)), (i2x10, .inl (k 0, 4, .inl f2x10)), (i2x12, .inl (k 0, 6, .inl f2x12)), (i2x13, .inl (k 0, 6, .inl f2x13)), (i2x14, .inl (k 0, 6, .inl f2x14)), (i2x15, .inl (k 0, 6, .inl f2x15)), (i2x17, .inl (k 0, 2, .inl f2x17)), (i2x18, .inl (k 0, 2, .inl f2x18)), (i2x19, .inr (0, [.int 0, .ref i2xk1, .ref i2xk2, .ref i2xk3])), (i2xk1, .inl (k 0, 40, .inl f2xk1)), (i2xk2, .inl (k 0, 40, .inl f2xk2)), (i2xk3, .inl (k 0, 40, .inl f2xk3)), (g1, .inr (10, [.int 0, .int 0, .int 0, .ref t3, .ref t4, .ref t5, .ref t6, .int 0, .int 0, .ref t9, .ref t10, .int 0, .ref t12, .ref t13, .ref t14, .ref t15, .int 0, .ref t17, .ref t18, .ref t19])), (t3, .inl (k 0, 10, .inl ft3)), (t4, .inl (k 0, 10, .inl ft4)), (t5, .inl (k 0, 10, .inl ft5)), (t6, .inl (k 0, 10, .inl ft6)), (t9, .inl (k 0, 4, .inl ft9)), (t10, .inl (k 0, 4, .inl ft10)), (t12, .inl (k 0, 6, .inl ft12)), (t13, .inl (k 0, 6, .inl ft13)), (t14, .inl (k 0, 6, .inl ft14)), (t15, .inl (k 0, 6, .inl ft15)), (t17, .inl (k 0, 2, .inl ft17)), (t18, .inl (k 0, 2, .inl ft18)), (t19, .inr (0, [.int 0, .ref tk1, .ref tk2, .ref tk3])), (tk1, .inl (k 0, 40, .inl ftk1)), (tk2, .inl (k 0, 40, .inl ftk2)), (tk3, .inl (k 0, 40, .inl ftk3))]) hD hS hA [53, 54, 55, 56, 57, 58, 59, 60, 61, 62, 63, 64, 65, 66, 67, 68, 69, 2, 3, 4, 5, 6, 7, 8, 9, 10, 11, 12, 13, 14, 15, 16, 17, 18] rfl
        refine va_callv (va_runV (C := RX10) (As := [.ref g1]) (rest := []) ⟨hx, hb, hml, hown, hts⟩ (c_X10_become l D k i2 g1 i2x3 i2x4 i2x5 i2x6 i2x9 i2x10 i2x12 i2x13 i2x14 i2x15 i2x17 i2x18 i2x19 f2x3 f2x4 f2x5 f2x6 f2x9 f2x10 f2x12 f2x13 f2x14 f2x15 f2x17 f2x18 i2xk1 i2xk2 i2xk3 f2xk1 f2xk2 f2xk3 t3 t4 t5 t6 t9 t10 t12 t13 t14 t15 t17 t18 t19 ft3 ft4 ft5 ft6 ft9 ft10 ft12 ft13 ft14 ft15 ft17 ft18 tk1 tk2 tk3 ftk1 ftk2 ftk3 s.heap.size) (cwV 1 hts (gV tw_5_238 tw_5_239 tw_6_0 tw_1_3 tw_6_1) rfl rfl rfl hdV_X10_become ⟨Nat.le_of_ble_eq_true rfl, Nat.le_of_ble_eq_true rfl⟩) (cz_V hK hPc hDc hN (ci := 10) (q0 := 0) rfl rfl [.ref g1]) rfl rfl hl.1 rfl (lv_room (Nat.le_of_ble_eq_true rfl)) dX11_image_22 ⟨Nat.le_of_ble_eq_true rfl, Nat.le_of_ble_eq_true rfl⟩) hS (fun q _ h => hFc q h) hFc (fun uZ tZ H1 locs ht hvm hw hB hz1 hk1 hS => ?_)
        obtain ⟨hP1, hK1, hD1⟩ := hB
        rw [ht] at hP1
        obtain ⟨hP, hD⟩ := va_join (wr := [(g, .inr (11, [.ref g0, .ref g1, .ref g2, .int 0, .ref g4, .ref g5, .ref g6, .ref g7, .ref g8, .ref g9, .ref g10, .ref g11, .ref g12])), (g2, .inl (k 4, 3, .inr (.inr (.inr (.inr fi))))), (i0, .inr (10, [.int 0, .int 0, .int 0, .ref i0x3, .ref i0x4, .ref i0x5, .ref i0x6, .int 0, .int 0, .ref i0x9, .ref i0x10, .int 0, .ref i0x12, .ref i0x13, .ref i0x14, .ref i0x15, .int 0, .ref i0x17, .ref i0x18, .ref i0x19])), (i0x3, .inl (k 0, 10, .inl f0x3)), (i0x4, .inl (k 0, 10, .inl f0x4)), (i0x5, .inl (k 0, 10, .inl f0x5)), (i0x6, .inl (k 0, 10, .inl f0x6)), (i0x9, .inl (k 0, 4, .inl f0x9)), (i0x10, .inl (k 0, 4, .inl f0x10)), (i0x12, .inl (k 0, 6, .inl f0x12)), (i0x13, .inl (k 0, 6, .inl f0x13)), (i0x14, .inl (k 0, 6, .inl f0x14)), (i0x15, .inl (k 0, 6, .inl f0x15)), (i0x17, .inl (k 0, 2, .inl f0x17)), (i0x18, .inl (k 0, 2, .inl f0x18)), (i0x19, .inr (0, [.int 0, .ref i0xk1, .ref i0xk2, .ref i0xk3])), (i0xk1, .inl (k 0, 40, .inl f0xk1)), (i0xk2, .inl (k 0, 40, .inl f0xk2)), (i0xk3, .inl (k 0, 40, .inl f0xk3)), (i1, .inr (10, [.int 0, .int 0, .int 0, .ref i1x3, .ref i1x4, .ref i1x5, .ref i1x6, .int 0, .int 0, .ref i1x9, .ref i1x10, .int 0, .ref i1x12, .ref i1x13, .ref i1x14, .ref i1x15, .int 0, .ref i1x17, .ref i1x18, .ref i1x19])), (i1x3, .inl (k 0, 10, .inl f1x3)), (i1x4, .inl (k 0, 10, .inl f1x4)), (i1x5, .inl (k 0, 10, .inl f1x5)), (i1x6, .inl (k 0, 10, .inl f1x6)), (i1x9, .inl (k 0, 4, .inl f1x9)), (i1x10, .inl (k 0, 4, .inl f1x10)), (i1x12, .inl (k 0, 6, .inl f1x12)), (i1x13, .inl (k 0, 6, .inl f1x13)), (i1x14, .inl (k 0, 6, .inl f1x14)), (i1x15, .inl (k 0, 6, .inl f1x15)), (i1x17, .inl (k 0, 2, .inl f1x17)), (i1x18, .inl (k 0, 2, .inl f1x18)), (i1x19, .inr (0, [.int 0, .ref i1xk1, .ref i1xk2, .ref i1xk3])), (i1xk1, .inl (k 0, 40, .inl f1xk1)), (i1xk2, .inl (k 0, 40, .inl f1xk2)), (i1xk3, .inl (k 0, 40, .inl f1xk3))]) (w1 := []) hP hD [53, 54, 55, 56, 57, 58, 59, 60, 61, 62, 63, 64, 65, 66, 67, 68, 69, 2, 3, 4, 5, 6, 7, 8, 9, 10, 11, 12, 13, 14, 15, 16, 17, 18] [0, 1, 19, 20, 21, 22, 23, 24, 25, 26, 27, 28, 29, 30, 31, 32, 33, 34, 35, 36, 37, 38, 39, 40, 41, 42, 43, 44, 45, 46, 47, 48, 49, 50, 51, 52] rfl rfl (by decide) (by decide) hk1 hFc hP1 hD1
        clear hK1 hP1 hD1 hPc hDc hFc
        clear hk1 hz1 ht hvm
        have hP : va_P D vwCl [(g, .inr (11, [.ref g0, .ref g1, .ref g2, .int 0, .ref g4, .ref g5, .ref g6, .ref g7, .ref g8, .ref g9, .ref g10, .ref g11, .ref g12])), (g2, .inl (k 4, 3, .inr (.inr (.inr (.inr fi))))), (i0, .inr (10, [.int 0, .int 0, .int 0, .ref i0x3, .ref i0x4, .ref i0x5, .ref i0x6, .int 0, .int 0, .ref i0x9, .ref i0x10, .int 0, .ref i0x12, .ref i0x13, .ref i0x14, .ref i0x15, .int 0, .ref i0x17, .ref i0x18, .ref i0x19])), (i0x3, .inl (k 0, 10, .inl f0x3)), (i0x4, .inl (k 0, 10, .inl f0x4)), (i0x5, .inl (k 0, 10, .inl f0x5)), (i0x6, .inl (k 0, 10, .inl f0x6)), (i0x9, .inl (k 0, 4, .inl f0x9)), (i0x10, .inl (k 0, 4, .inl f0x10)), (i0x12, .inl (k 0, 6, .inl f0x12)), (i0x13, .inl (k 0, 6, .inl f0x13)), (i0x14, .inl (k 0, 6, .inl f0x14)), (i0x15, .inl (k 0, 6, .inl f0x15)), (i0x17, .inl (k 0, 2, .inl f0x17)), (i0x18, .inl (k 0, 2, .inl f0x18)), (i0x19, .inr (0, [.int 0, .ref i0xk1, .ref i0xk2, .ref i0xk3])), (i0xk1, .inl (k 0, 40, .inl f0xk1)), (i0xk2, .inl (k 0, 40, .inl f0xk2)), (i0xk3, .inl (k 0, 40, .inl f0xk3)), (i1, .inr (10, [.int 0, .int 0, .int 0, .ref i1x3, .ref i1x4, .ref i1x5, .ref i1x6, .int 0, .int 0, .ref i1x9, .ref i1x10, .int 0, .ref i1x12, .ref i1x13, .ref i1x14, .ref i1x15, .int 0, .ref i1x17, .ref i1x18, .ref i1x19])), (i1x3, .inl (k 0, 10, .inl f1x3)), (i1x4, .inl (k 0, 10, .inl f1x4)), (i1x5, .inl (k 0, 10, .inl f1x5)), (i1x6, .inl (k 0, 10, .inl f1x6)), (i1x9, .inl (k 0, 4, .inl f1x9)), (i1x10, .inl (k 0, 4, .inl f1x10)), (i1x12, .inl (k 0, 6, .inl f1x12)), (i1x13, .inl (k 0, 6, .inl f1x13)), (i1x14, .inl (k 0, 6, .inl f1x14)), (i1x15, .inl (k 0, 6, .inl f1x15)), (i1x17, .inl (k 0, 2, .inl f1x17)), (i1x18, .inl (k 0, 2, .inl f1x18)), (i1x19, .inr (0, [.int 0, .ref i1xk1, .ref i1xk2, .ref i1xk3])), (i1xk1, .inl (k 0, 40, .inl f1xk1)), (i1xk2, .inl (k 0, 40, .inl f1xk2)), (i1xk3, .inl (k 0, 40, .inl f1xk3))] H1 := hP
        have hD : va_D A [(g, .inr (11, [.ref g0, .ref g1, .ref g2, .int 0, .ref g4, .ref g5, .ref g6, .ref g7, .ref g8, .ref g9, .ref g10, .ref g11, .ref g12])), (g2, .inl (k 4, 3, .inr (.inr (.inr (.inr fi))))), (i0, .inr (10, [.int 0, .int 0, .int 0, .ref i0x3, .ref i0x4, .ref i0x5, .ref i0x6, .int 0, .int 0, .ref i0x9, .ref i0x10, .int 0, .ref i0x12, .ref i0x13, .ref i0x14, .ref i0x15, .int 0, .ref i0x17, .ref i0x18, .ref i0x19])), (i0x3, .inl (k 0, 10, .inl f0x3)), (i0x4, .inl (k 0, 10, .inl f0x4)), (i0x5, .inl (k 0, 10, .inl f0x5)), (i0x6, .inl (k 0, 10, .inl f0x6)), (i0x9, .inl (k 0, 4, .inl f0x9)), (i0x10, .inl (k 0, 4, .inl f0x10)), (i0x12, .inl (k 0, 6, .inl f0x12)), (i0x13, .inl (k 0, 6, .inl f0x13)), (i0x14, .inl (k 0, 6, .inl f0x14)), (i0x15, .inl (k 0, 6, .inl f0x15)), (i0x17, .inl (k 0, 2, .inl f0x17)), (i0x18, .inl (k 0, 2, .inl f0x18)), (i0x19, .inr (0, [.int 0, .ref i0xk1, .ref i0xk2, .ref i0xk3])), (i0xk1, .inl (k 0, 40, .inl f0xk1)), (i0xk2, .inl (k 0, 40, .inl f0xk2)), (i0xk3, .inl (k 0, 40, .inl f0xk3)), (i1, .inr (10, [.int 0, .int 0, .int 0, .ref i1x3, .ref i1x4, .ref i1x5, .ref i1x6, .int 0, .int 0, .ref i1x9, .ref i1x10, .int 0, .ref i1x12, .ref i1x13, .ref i1x14, .ref i1x15, .int 0, .ref i1x17, .ref i1x18, .ref i1x19])), (i1x3, .inl (k 0, 10, .inl f1x3)), (i1x4, .inl (k 0, 10, .inl f1x4)), (i1x5, .inl (k 0, 10, .inl f1x5)), (i1x6, .inl (k 0, 10, .inl f1x6)), (i1x9, .inl (k 0, 4, .inl f1x9)), (i1x10, .inl (k 0, 4, .inl f1x10)), (i1x12, .inl (k 0, 6, .inl f1x12)), (i1x13, .inl (k 0, 6, .inl f1x13)), (i1x14, .inl (k 0, 6, .inl f1x14)), (i1x15, .inl (k 0, 6, .inl f1x15)), (i1x17, .inl (k 0, 2, .inl f1x17)), (i1x18, .inl (k 0, 2, .inl f1x18)), (i1x19, .inr (0, [.int 0, .ref i1xk1, .ref i1xk2, .ref i1xk3])), (i1xk1, .inl (k 0, 40, .inl f1xk1)), (i1xk2, .inl (k 0, 40, .inl f1xk2)), (i1xk3, .inl (k 0, 40, .inl f1xk3))] := hD
        generalize H1 = H at hP hS ⊢
        clear hw
        refine lv_aload_n hx hb dX11_image_25 rfl (lv_at hl 0 rfl) ?_
        refine lv_dup hx hb dX11_image_26 rfl ?_
        refine va_get (D := D) (ci := 11) (v := .int 0) (C := RX11) (T := TX11) (N := 13) hx hb hts iT_X11 hown hK hP 0 rfl rfl 3 (by decide) (hts _ tw_2_173) (fun _ h9 => h9) rfl dX11_image_27 ?_
        refine lv_iconst (v := 1) hx hb dX11_image_30 (by decide) ?_
        refine lv_iload_n hx hb dX11_image_31 rfl (lv_at hl 1 rfl) ?_
        refine lv_ishl hx hb dX11_image_32 ?_
        refine lv_topi (fun x_16 ex_16 => ?_)
        obtain rfl : x_16 = 4 := ex_16.trans (by decide)
        refine lv_ior hx hb dX11_image_33 ?_
        refine lv_topi (fun x_17 ex_17 => ?_)
        obtain rfl : x_17 = 4 := ex_17.trans (by decide)
        refine va_put (D := D) (ci := 11) (v := .int 4) (ty := tyX11 3) (C := RX11) (T := TX11) (N := 13) hx hb hts iT_X11 tyX11 tyX11_ok nmX11 hown hK hP hD hS 0 rfl rfl 3 (by decide) (hts _ tw_2_173) (fun _ h9 => h9) rfl (tyX11_ok 3 (by decide)) rfl rfl (Nat.le_of_ble_eq_true rfl) dX11_image_34 (fun H locs hP hD hS => ?_)
        have hP : va_P D vwCl [(g, .inr (11, [.ref g0, .ref g1, .ref g2, .int 4, .ref g4, .ref g5, .ref g6, .ref g7, .ref g8, .ref g9, .ref g10, .ref g11, .ref g12])), (g2, .inl (k 4, 3, .inr (.inr (.inr (.inr fi))))), (i0, .inr (10, [.int 0, .int 0, .int 0, .ref i0x3, .ref i0x4, .ref i0x5, .ref i0x6, .int 0, .int 0, .ref i0x9, .ref i0x10, .int 0, .ref i0x12, .ref i0x13, .ref i0x14, .ref i0x15, .int 0, .ref i0x17, .ref i0x18, .ref i0x19])), (i0x3, .inl (k 0, 10, .inl f0x3)), (i0x4, .inl (k 0, 10, .inl f0x4)), (i0x5, .inl (k 0, 10, .inl f0x5)), (i0x6, .inl (k 0, 10, .inl f0x6)), (i0x9, .inl (k 0, 4, .inl f0x9)), (i0x10, .inl (k 0, 4, .inl f0x10)), (i0x12, .inl (k 0, 6, .inl f0x12)), (i0x13, .inl (k 0, 6, .inl f0x13)), (i0x14, .inl (k 0, 6, .inl f0x14)), (i0x15, .inl (k 0, 6, .inl f0x15)), (i0x17, .inl (k 0, 2, .inl f0x17)), (i0x18, .inl (k 0, 2, .inl f0x18)), (i0x19, .inr (0, [.int 0, .ref i0xk1, .ref i0xk2, .ref i0xk3])), (i0xk1, .inl (k 0, 40, .inl f0xk1)), (i0xk2, .inl (k 0, 40, .inl f0xk2)), (i0xk3, .inl (k 0, 40, .inl f0xk3)), (i1, .inr (10, [.int 0, .int 0, .int 0, .ref i1x3, .ref i1x4, .ref i1x5, .ref i1x6, .int 0, .int 0, .ref i1x9, .ref i1x10, .int 0, .ref i1x12, .ref i1x13, .ref i1x14, .ref i1x15, .int 0, .ref i1x17, .ref i1x18, .ref i1x19])), (i1x3, .inl (k 0, 10, .inl f1x3)), (i1x4, .inl (k 0, 10, .inl f1x4)), (i1x5, .inl (k 0, 10, .inl f1x5)), (i1x6, .inl (k 0, 10, .inl f1x6)), (i1x9, .inl (k 0, 4, .inl f1x9)), (i1x10, .inl (k 0, 4, .inl f1x10)), (i1x12, .inl (k 0, 6, .inl f1x12)), (i1x13, .inl (k 0, 6, .inl f1x13)), (i1x14, .inl (k 0, 6, .inl f1x14)), (i1x15, .inl (k 0, 6, .inl f1x15)), (i1x17, .inl (k 0, 2, .inl f1x17)), (i1x18, .inl (k 0, 2, .inl f1x18)), (i1x19, .inr (0, [.int 0, .ref i1xk1, .ref i1xk2, .ref i1xk3])), (i1xk1, .inl (k 0, 40, .inl f1xk1)), (i1xk2, .inl (k 0, 40, .inl f1xk2)), (i1xk3, .inl (k 0, 40, .inl f1xk3))] H := hP
        have hD : va_D A [(g, .inr (11, [.ref g0, .ref g1, .ref g2, .int 4, .ref g4, .ref g5, .ref g6, .ref g7, .ref g8, .ref g9, .ref g10, .ref g11, .ref g12])), (g2, .inl (k 4, 3, .inr (.inr (.inr (.inr fi))))), (i0, .inr (10, [.int 0, .int 0, .int 0, .ref i0x3, .ref i0x4, .ref i0x5, .ref i0x6, .int 0, .int 0, .ref i0x9, .ref i0x10, .int 0, .ref i0x12, .ref i0x13, .ref i0x14, .ref i0x15, .int 0, .ref i0x17, .ref i0x18, .ref i0x19])), (i0x3, .inl (k 0, 10, .inl f0x3)), (i0x4, .inl (k 0, 10, .inl f0x4)), (i0x5, .inl (k 0, 10, .inl f0x5)), (i0x6, .inl (k 0, 10, .inl f0x6)), (i0x9, .inl (k 0, 4, .inl f0x9)), (i0x10, .inl (k 0, 4, .inl f0x10)), (i0x12, .inl (k 0, 6, .inl f0x12)), (i0x13, .inl (k 0, 6, .inl f0x13)), (i0x14, .inl (k 0, 6, .inl f0x14)), (i0x15, .inl (k 0, 6, .inl f0x15)), (i0x17, .inl (k 0, 2, .inl f0x17)), (i0x18, .inl (k 0, 2, .inl f0x18)), (i0x19, .inr (0, [.int 0, .ref i0xk1, .ref i0xk2, .ref i0xk3])), (i0xk1, .inl (k 0, 40, .inl f0xk1)), (i0xk2, .inl (k 0, 40, .inl f0xk2)), (i0xk3, .inl (k 0, 40, .inl f0xk3)), (i1, .inr (10, [.int 0, .int 0, .int 0, .ref i1x3, .ref i1x4, .ref i1x5, .ref i1x6, .int 0, .int 0, .ref i1x9, .ref i1x10, .int 0, .ref i1x12, .ref i1x13, .ref i1x14, .ref i1x15, .int 0, .ref i1x17, .ref i1x18, .ref i1x19])), (i1x3, .inl (k 0, 10, .inl f1x3)), (i1x4, .inl (k 0, 10, .inl f1x4)), (i1x5, .inl (k 0, 10, .inl f1x5)), (i1x6, .inl (k 0, 10, .inl f1x6)), (i1x9, .inl (k 0, 4, .inl f1x9)), (i1x10, .inl (k 0, 4, .inl f1x10)), (i1x12, .inl (k 0, 6, .inl f1x12)), (i1x13, .inl (k 0, 6, .inl f1x13)), (i1x14, .inl (k 0, 6, .inl f1x14)), (i1x15, .inl (k 0, 6, .inl f1x15)), (i1x17, .inl (k 0, 2, .inl f1x17)), (i1x18, .inl (k 0, 2, .inl f1x18)), (i1x19, .inr (0, [.int 0, .ref i1xk1, .ref i1xk2, .ref i1xk3])), (i1xk1, .inl (k 0, 40, .inl f1xk1)), (i1xk2, .inl (k 0, 40, .inl f1xk2)), (i1xk3, .inl (k 0, 40, .inl f1xk3))] := hD
        refine lv_iconst (v := 0) hx hb dX11_image_37 (by decide) ?_
        have hP9 := hP.sub (ws' := []) [] rfl
        have hD9 := hD.sub (ws' := []) [] (by decide) rfl
        exact W.iret (v := 0) hx hb hr (fun tZ ht hW => ⟨⟨0, (), rfl, (show 0 = sp_image 2 from by unfold sp_image; first | (rw [if_neg (by omega)]) | (rw [if_pos (by omega)])), by rw [ht]; exact hP9, va_K.moved hW.alike hK, hD9⟩, hS.F ht⟩) hS.2.2 dX11_image_38
    · skip
      have zh_2 : 3 ≤ p0.toInt := z_nlt h_2
      refine lv_bipush (v := (-2)) hx hb dX11_image_9 (by decide) ?_
      have hP9 := hP.sub (ws' := []) [] rfl
      have hD9 := hD.sub (ws' := []) [] (by decide) rfl
      exact W.iret (v := (-2)) hx hb hr (fun tZ ht hW => ⟨⟨(-2), (), rfl, (show (-2) = sp_image p0 from by unfold sp_image; first | (rw [if_neg (by omega)]) | (rw [if_pos (by omega)])), by rw [ht]; exact hP9, va_K.moved hW.alike hK, hD9⟩, hS.F ht⟩) hS.2.2 dX11_image_11
set_option maxHeartbeats 4000000 in
set_option maxRecDepth 100000 in
theorem c_X11_back (l : Launch) (D : va_G) (k : Nat → ClassId) (g : Nat) (g0 : Nat) (g1 : Nat) (g2 : Nat) (g4 : Nat) (g5 : Nat) (g6 : Nat) (g7 : Nat) (g8 : Nat) (g9 : Nat) (g10 : Nat) (g11 : Nat) (g12 : Nat) (p0 : Int32) (sz : Nat) : Met l yX11_back (ww yX11_back cX11_back 2 (some .int)) ({ frames := 0, cells := 0, slots := 0, locals := 0 }) (Pre0 D k [(g, .inr (11, [.ref g0, .ref g1, .ref g2, .int 0, .ref g4, .ref g5, .ref g6, .ref g7, .ref g8, .ref g9, .ref g10, .ref g11, .ref g12]))] sz [.ref g, .int p0]) (va_Qi (fun (r : Int32) (_ : Unit) => r = sp_back p0) (fun (_ : Unit) tZ => Bw D k (va_A [(g, .inr (11, [.ref g0, .ref g1, .ref g2, .int 0, .ref g4, .ref g5, .ref g6, .ref g7, .ref g8, .ref g9, .ref g10, .ref g11, .ref g12]))] sz) [(g, .inr (11, [.ref g0, .ref g1, .ref g2, .int 0, .ref g4, .ref g5, .ref g6, .ref g7, .ref g8, .ref g9, .ref g10, .ref g11, .ref g12]))] tZ) (va_A [(g, .inr (11, [.ref g0, .ref g1, .ref g2, .int 0, .ref g4, .ref g5, .ref g6, .ref g7, .ref g8, .ref g9, .ref g10, .ref g11, .ref g12]))] sz)) 0 0 (va_A [(g, .inr (11, [.ref g0, .ref g1, .ref g2, .int 0, .ref g4, .ref g5, .ref g6, .ref g7, .ref g8, .ref g9, .ref g10, .ref g11, .ref g12]))] sz) := by
  refine Met.ofW (cc := cX11_back) (maxL := 2) (ret := (some .int)) (by decide +kernel) rfl ?_
  intro p e s m args below meth c s₁ B hml hv
  obtain ⟨rfl, hsz, hP, hK, hD0, hN⟩ := hv
  have hx := B.exec
  have hb := B.bytes
  have hr := B.returns
  have hts : ∀ w ∈ TT, w.before _ s = true := fun w h => atoms_spec (ws := ww yX11_back cX11_back 2 (some .int)) B.pre w (List.mem_cons_of_mem _ h)
  have hown : s.vm.findClass RX11 = some m.cls := findClass_of_methodNamed B.named
  have hlocks := B.notSynchronized
  subst hsz
  have hD := hD0.self (sz := s.heap.size)
  generalize hAe : va_A [(g, .inr (11, [.ref g0, .ref g1, .ref g2, .int 0, .ref g4, .ref g5, .ref g6, .ref g7, .ref g8, .ref g9, .ref g10, .ref g11, .ref g12]))] s.heap.size = A at hD ⊢
  have hA : ∀ q : Nat, s.heap.size ≤ q → A q := fun q h => by rw [← hAe]; exact Or.inr h
  have hS : va_S A s.heap s.heap [] := va_S.rf
  have hl := lv_entry ([.ref g, .int p0]) (n := 2) (Nat.le_of_ble_eq_true rfl)
  rw [lg_entry_eq]
  generalize (lg_sl ([.ref g, .int p0]) ++ List.replicate (2 - (lg_sl ([.ref g, .int p0])).length) Slot.unset).toArray = ls at hl ⊢
  have hl : lv_has ls 2 [(0, .ref g), (1, .int p0)] := hl
  refine lv_iload_n hx hb dX11_back_0 rfl (lv_at hl 1 rfl) ?_
  refine lv_if_lt (tgt := 9) hx hb dX11_back_1 (by decide) (fun h_1 => ?_) (fun h_1 => ?_)
  · skip
    have zh_1 : p0.toInt < 0 := z_lt h_1
    refine lv_bipush (v := (-2)) hx hb dX11_back_9 (by decide) ?_
    have hP9 := hP.sub (ws' := [(g, .inr (11, [.ref g0, .ref g1, .ref g2, .int 0, .ref g4, .ref g5, .ref g6, .ref g7, .ref g8, .ref g9, .ref g10, .ref g11, .ref g12]))]) [0] rfl
    have hD9 := hD.sub (ws' := [(g, .inr (11, [.ref g0, .ref g1, .ref g2, .int 0, .ref g4, .ref g5, .ref g6, .ref g7, .ref g8, .ref g9, .ref g10, .ref g11, .ref g12]))]) [0] (by decide) rfl
    exact W.iret (v := (-2)) hx hb hr (fun tZ ht hW => ⟨⟨(-2), (), rfl, (show (-2) = sp_back p0 from by unfold sp_back; first | (rw [if_neg (by omega)]) | (rw [if_pos (by omega)])), by rw [ht]; exact hP9, va_K.moved hW.alike hK, hD9⟩, hS.F ht⟩) hS.2.2 dX11_back_11
  · skip
    have zh_1 : 0 ≤ p0.toInt := z_nlt h_1
    refine lv_iload_n hx hb dX11_back_4 rfl (lv_at hl 1 rfl) ?_
    refine lv_iconst (v := 3) hx hb dX11_back_5 (by decide) ?_
    refine lv_icmp_lt (tgt := 12) hx hb dX11_back_6 (by decide) (fun h_2 => ?_) (fun h_2 => ?_)
    · skip
      have zh_2 : p0.toInt < 3 := z_lt h_2
      rcases z_c3 p0 (by omega) (by omega) with rfl | rfl | rfl
      · skip
        refine lv_aload_n hx hb dX11_back_12 rfl (lv_at hl 0 rfl) ?_
        refine va_get (D := D) (ci := 11) (v := .int 0) (C := RX11) (T := TX11) (N := 13) hx hb hts iT_X11 hown hK hP 0 rfl rfl 3 (by decide) (hts _ tw_2_173) (fun _ h9 => h9) rfl dX11_back_13 ?_
        refine lv_iload_n hx hb dX11_back_16 rfl (lv_at hl 1 rfl) ?_
        refine lv_ishr hx hb dX11_back_17 ?_
        refine lv_topi (fun x_3 ex_3 => ?_)
        obtain rfl : x_3 = 0 := ex_3.trans (by decide)
        refine lv_iconst (v := 1) hx hb dX11_back_18 (by decide) ?_
        refine lv_iand hx hb dX11_back_19 ?_
        refine lv_topi (fun x_4 ex_4 => ?_)
        obtain rfl : x_4 = 0 := ex_4.trans (by decide)
        refine lv_if_ne (tgt := 26) hx hb dX11_back_20 (by decide) (fun c9 => absurd c9 (by decide)) (fun _ => ?_)
        refine lv_bipush (v := (-6)) hx hb dX11_back_23 (by decide) ?_
        have hP9 := hP.sub (ws' := [(g, .inr (11, [.ref g0, .ref g1, .ref g2, .int 0, .ref g4, .ref g5, .ref g6, .ref g7, .ref g8, .ref g9, .ref g10, .ref g11, .ref g12]))]) [0] rfl
        have hD9 := hD.sub (ws' := [(g, .inr (11, [.ref g0, .ref g1, .ref g2, .int 0, .ref g4, .ref g5, .ref g6, .ref g7, .ref g8, .ref g9, .ref g10, .ref g11, .ref g12]))]) [0] (by decide) rfl
        exact W.iret (v := (-6)) hx hb hr (fun tZ ht hW => ⟨⟨(-6), (), rfl, (show (-6) = sp_back 0 from by unfold sp_back; first | (rw [if_neg (by omega)]) | (rw [if_pos (by omega)])), by rw [ht]; exact hP9, va_K.moved hW.alike hK, hD9⟩, hS.F ht⟩) hS.2.2 dX11_back_25
      · skip
        refine lv_aload_n hx hb dX11_back_12 rfl (lv_at hl 0 rfl) ?_
        refine va_get (D := D) (ci := 11) (v := .int 0) (C := RX11) (T := TX11) (N := 13) hx hb hts iT_X11 hown hK hP 0 rfl rfl 3 (by decide) (hts _ tw_2_173) (fun _ h9 => h9) rfl dX11_back_13 ?_
        refine lv_iload_n hx hb dX11_back_16 rfl (lv_at hl 1 rfl) ?_
        refine lv_ishr hx hb dX11_back_17 ?_
        refine lv_topi (fun x_5 ex_5 => ?_)
        obtain rfl : x_5 = 0 := ex_5.trans (by decide)
        refine lv_iconst (v := 1) hx hb dX11_back_18 (by decide) ?_
        refine lv_iand hx hb dX11_back_19 ?_
        refine lv_topi (fun x_6 ex_6 => ?_)
        obtain rfl : x_6 = 0 := ex_6.trans (by decide)
        refine lv_if_ne (tgt := 26) hx hb dX11_back_20 (by decide) (fun c9 => absurd c9 (by decide)) (fun _ => ?_)
        refine lv_bipush (v := (-6)) hx hb dX11_back_23 (by decide) ?_
        have hP9 := hP.sub (ws' := [(g, .inr (11, [.ref g0, .ref g1, .ref g2, .int 0, .ref g4, .ref g5, .ref g6, .ref g7, .ref g8, .ref g9, .ref g10, .ref g11, .ref g12]))]) [0] rfl
        have hD9 := hD.sub (ws' := [(g, .inr (11, [.ref g0, .ref g1, .ref g2, .int 0, .ref g4, .ref g5, .ref g6, .ref g7, .ref g8, .ref g9, .ref g10, .ref g11, .ref g12]))]) [0] (by decide) rfl
        exact W.iret (v := (-6)) hx hb hr (fun tZ ht hW => ⟨⟨(-6), (), rfl, (show (-6) = sp_back 1 from by unfold sp_back; first | (rw [if_neg (by omega)]) | (rw [if_pos (by omega)])), by rw [ht]; exact hP9, va_K.moved hW.alike hK, hD9⟩, hS.F ht⟩) hS.2.2 dX11_back_25
      · skip
        refine lv_aload_n hx hb dX11_back_12 rfl (lv_at hl 0 rfl) ?_
        refine va_get (D := D) (ci := 11) (v := .int 0) (C := RX11) (T := TX11) (N := 13) hx hb hts iT_X11 hown hK hP 0 rfl rfl 3 (by decide) (hts _ tw_2_173) (fun _ h9 => h9) rfl dX11_back_13 ?_
        refine lv_iload_n hx hb dX11_back_16 rfl (lv_at hl 1 rfl) ?_
        refine lv_ishr hx hb dX11_back_17 ?_
        refine lv_topi (fun x_7 ex_7 => ?_)
        obtain rfl : x_7 = 0 := ex_7.trans (by decide)
        refine lv_iconst (v := 1) hx hb dX11_back_18 (by decide) ?_
        refine lv_iand hx hb dX11_back_19 ?_
        refine lv_topi (fun x_8 ex_8 => ?_)
        obtain rfl : x_8 = 0 := ex_8.trans (by decide)
        refine lv_if_ne (tgt := 26) hx hb dX11_back_20 (by decide) (fun c9 => absurd c9 (by decide)) (fun _ => ?_)
        refine lv_bipush (v := (-6)) hx hb dX11_back_23 (by decide) ?_
        have hP9 := hP.sub (ws' := [(g, .inr (11, [.ref g0, .ref g1, .ref g2, .int 0, .ref g4, .ref g5, .ref g6, .ref g7, .ref g8, .ref g9, .ref g10, .ref g11, .ref g12]))]) [0] rfl
        have hD9 := hD.sub (ws' := [(g, .inr (11, [.ref g0, .ref g1, .ref g2, .int 0, .ref g4, .ref g5, .ref g6, .ref g7, .ref g8, .ref g9, .ref g10, .ref g11, .ref g12]))]) [0] (by decide) rfl
        exact W.iret (v := (-6)) hx hb hr (fun tZ ht hW => ⟨⟨(-6), (), rfl, (show (-6) = sp_back 2 from by unfold sp_back; first | (rw [if_neg (by omega)]) | (rw [if_pos (by omega)])), by rw [ht]; exact hP9, va_K.moved hW.alike hK, hD9⟩, hS.F ht⟩) hS.2.2 dX11_back_25
    · skip
      have zh_2 : 3 ≤ p0.toInt := z_nlt h_2
      refine lv_bipush (v := (-2)) hx hb dX11_back_9 (by decide) ?_
      have hP9 := hP.sub (ws' := [(g, .inr (11, [.ref g0, .ref g1, .ref g2, .int 0, .ref g4, .ref g5, .ref g6, .ref g7, .ref g8, .ref g9, .ref g10, .ref g11, .ref g12]))]) [0] rfl
      have hD9 := hD.sub (ws' := [(g, .inr (11, [.ref g0, .ref g1, .ref g2, .int 0, .ref g4, .ref g5, .ref g6, .ref g7, .ref g8, .ref g9, .ref g10, .ref g11, .ref g12]))]) [0] (by decide) rfl
      exact W.iret (v := (-2)) hx hb hr (fun tZ ht hW => ⟨⟨(-2), (), rfl, (show (-2) = sp_back p0 from by unfold sp_back; first | (rw [if_neg (by omega)]) | (rw [if_pos (by omega)])), by rw [ht]; exact hP9, va_K.moved hW.alike hK, hD9⟩, hS.F ht⟩) hS.2.2 dX11_back_11
set_option maxHeartbeats 4000000 in
set_option maxRecDepth 100000 in
theorem c_X8_make (l : Launch) (D : va_G) (k : Nat → ClassId) (rw : Nat) (w0 : Nat) (w1 : Nat) (w2 : Nat) (fn : Nat → Int64) (fl : Nat → Int32) (fw : Nat → Int32) (p0 : Int32) (p1 : Int32) (p2 : Int32) (sz : Nat) : Met l yX8_make (ww yX8_make cX8_make 5 none) ({ frames := 1, cells := 0, slots := 0, locals := 20 }) (Pre0 D k [(rw, .inr (8, [.ref w0, .ref w1, .ref w2, .int 0])), (w0, .inl (k 2, 240, .inr (.inl fn))), (w1, .inl (k 0, 4, .inl fl)), (w2, .inl (k 0, 4, .inl fw))] sz [.ref rw, .int p0, .int p1, .int p2]) (va_Qv (fun (_ : Unit) => True) (fun (_ : Unit) tZ => Bw D k (va_A [(rw, .inr (8, [.ref w0, .ref w1, .ref w2, .int 0])), (w0, .inl (k 2, 240, .inr (.inl fn))), (w1, .inl (k 0, 4, .inl fl)), (w2, .inl (k 0, 4, .inl fw))] sz) [] tZ) (va_A [(rw, .inr (8, [.ref w0, .ref w1, .ref w2, .int 0])), (w0, .inl (k 2, 240, .inr (.inl fn))), (w1, .inl (k 0, 4, .inl fl)), (w2, .inl (k 0, 4, .inl fw))] sz)) 0 0 (va_A [(rw, .inr (8, [.ref w0, .ref w1, .ref w2, .int 0])), (w0, .inl (k 2, 240, .inr (.inl fn))), (w1, .inl (k 0, 4, .inl fl)), (w2, .inl (k 0, 4, .inl fw))] sz) := by
  refine Met.ofW (cc := cX8_make) (maxL := 5) (ret := none) (by decide +kernel) rfl ?_
  intro p e s m args below meth c s₁ B hml hv
  obtain ⟨rfl, hsz, hP, hK, hD0, hN⟩ := hv
  have hx := B.exec
  have hb := B.bytes
  have hr := B.returns
  have hts : ∀ w ∈ TT, w.before _ s = true := fun w h => atoms_spec (ws := ww yX8_make cX8_make 5 none) B.pre w (List.mem_cons_of_mem _ h)
  have hown : s.vm.findClass RX8 = some m.cls := findClass_of_methodNamed B.named
  have hlocks := B.notSynchronized
  subst hsz
  have hD := hD0.self (sz := s.heap.size)
  generalize hAe : va_A [(rw, .inr (8, [.ref w0, .ref w1, .ref w2, .int 0])), (w0, .inl (k 2, 240, .inr (.inl fn))), (w1, .inl (k 0, 4, .inl fl)), (w2, .inl (k 0, 4, .inl fw))] s.heap.size = A at hD ⊢
  have hA : ∀ q : Nat, s.heap.size ≤ q → A q := fun q h => by rw [← hAe]; exact Or.inr h
  have hS : va_S A s.heap s.heap [] := va_S.rf
  have hl := lv_entry ([.ref rw, .int p0, .int p1, .int p2]) (n := 5) (Nat.le_of_ble_eq_true rfl)
  rw [lg_entry_eq]
  generalize (lg_sl ([.ref rw, .int p0, .int p1, .int p2]) ++ List.replicate (5 - (lg_sl ([.ref rw, .int p0, .int p1, .int p2])).length) Slot.unset).toArray = ls at hl ⊢
  have hl : lv_has ls 5 [(0, .ref rw), (1, .int p0), (2, .int p1), (3, .int p2)] := hl
  refine lv_iload_n hx hb dX8_make_0 rfl (lv_at hl 1 rfl) ?_
  have hPc := hP.sub (ws' := []) [] rfl
  have hDc := hD.sub (ws' := []) [] (by decide) rfl
  have hFc := va_free (wc := []) hD hS hA [] rfl
  refine va_calli (va_runS (As := [.int p0]) (rest := []) ⟨hx, hb, hml, hown, hts⟩ (c_X8_isSlot l D k p0 s.heap.size) (va_cwS 1 hts (gS tw_4_228 tw_4_214 tw_1_5 tw_4_215) rfl rfl rfl hdS_X8_isSlot ⟨Nat.le_of_ble_eq_true rfl, Nat.le_of_ble_eq_true rfl⟩) (cz_S hK hPc hDc hN [.int p0]) rfl rfl hl.1 rfl (lv_room (Nat.le_of_ble_eq_true rfl)) dX8_make_1 ⟨Nat.le_of_ble_eq_true rfl, Nat.le_of_ble_eq_true rfl⟩) hS (fun q _ h => hFc q h) hFc (fun r_1 uZ tZ H1 locs ht hvm hw hB hz1 hk1 hS => ?_)
  obtain ⟨hP1, hK1, hD1⟩ := hB
  rw [ht] at hP1
  obtain ⟨hP, hD⟩ := va_join (wr := [(rw, .inr (8, [.ref w0, .ref w1, .ref w2, .int 0])), (w0, .inl (k 2, 240, .inr (.inl fn))), (w1, .inl (k 0, 4, .inl fl)), (w2, .inl (k 0, 4, .inl fw))]) (w1 := []) hP hD [] [0, 1, 2, 3] rfl rfl (by decide) (by decide) hk1 hFc hP1 hD1
  clear hK1 hP1 hD1 hPc hDc hFc
  clear hk1 hz1 ht hvm
  have hP : va_P D vwCl [(rw, .inr (8, [.ref w0, .ref w1, .ref w2, .int 0])), (w0, .inl (k 2, 240, .inr (.inl fn))), (w1, .inl (k 0, 4, .inl fl)), (w2, .inl (k 0, 4, .inl fw))] H1 := hP
  have hD : va_D A [(rw, .inr (8, [.ref w0, .ref w1, .ref w2, .int 0])), (w0, .inl (k 2, 240, .inr (.inl fn))), (w1, .inl (k 0, 4, .inl fl)), (w2, .inl (k 0, 4, .inl fw))] := hD
  generalize H1 = H at hP hS ⊢
  have hw_2 : (r_1.toInt = 1 ∧ 0 ≤ p0.toInt ∧ p0.toInt < 4) ∨ (r_1.toInt = 0 ∧ (p0.toInt < 0 ∨ 4 ≤ p0.toInt)) := hw
  clear hw
  refine lv_if_eq (tgt := 62) hx hb dX8_make_4 (by decide) (fun h_3 => ?_) (fun h_3 => ?_)
  · skip
    have zh_3 : r_1.toInt = 0 := z_eq h_3
    have hP9 := hP.sub (ws' := []) [] rfl
    have hD9 := hD.sub (ws' := []) [] (by decide) rfl
    exact W.vret hx hb hr (fun tZ ht hW => ⟨⟨(), rfl, trivial, by rw [ht]; exact hP9, va_K.moved hW.alike hK, hD9⟩, hS.F ht⟩) hS.2.2 dX8_make_62
  · skip
    have zh_3 : ¬ r_1.toInt = 0 := z_ne h_3
    rcases z_c4 p0 (by omega) (by omega) with rfl | rfl | rfl | rfl
    · skip
      refine lv_aload_n hx hb dX8_make_7 rfl (lv_at hl 0 rfl) ?_
      refine lv_dup hx hb dX8_make_8 rfl ?_
      refine va_get (D := D) (ci := 8) (v := .int 0) (C := RX8) (T := TX8) (N := 4) hx hb hts iT_X8 hown hK hP 0 rfl rfl 3 (by decide) (hts _ tw_2_0) (fun _ h9 => h9) rfl dX8_make_9 ?_
      refine lv_iconst (v := 1) hx hb dX8_make_12 (by decide) ?_
      refine lv_iload_n hx hb dX8_make_13 rfl (lv_at hl 1 rfl) ?_
      refine lv_ishl hx hb dX8_make_14 ?_
      refine lv_topi (fun x_4 ex_4 => ?_)
      obtain rfl : x_4 = 1 := ex_4.trans (by decide)
      refine lv_ior hx hb dX8_make_15 ?_
      refine lv_topi (fun x_5 ex_5 => ?_)
      obtain rfl : x_5 = 1 := ex_5.trans (by decide)
      refine va_put (D := D) (ci := 8) (v := .int 1) (ty := tyX8 3) (C := RX8) (T := TX8) (N := 4) hx hb hts iT_X8 tyX8 tyX8_ok nmX8 hown hK hP hD hS 0 rfl rfl 3 (by decide) (hts _ tw_2_0) (fun _ h9 => h9) rfl (tyX8_ok 3 (by decide)) rfl rfl (Nat.le_of_ble_eq_true rfl) dX8_make_16 (fun H locs hP hD hS => ?_)
      have hP : va_P D vwCl [(rw, .inr (8, [.ref w0, .ref w1, .ref w2, .int 1])), (w0, .inl (k 2, 240, .inr (.inl fn))), (w1, .inl (k 0, 4, .inl fl)), (w2, .inl (k 0, 4, .inl fw))] H := hP
      have hD : va_D A [(rw, .inr (8, [.ref w0, .ref w1, .ref w2, .int 1])), (w0, .inl (k 2, 240, .inr (.inl fn))), (w1, .inl (k 0, 4, .inl fl)), (w2, .inl (k 0, 4, .inl fw))] := hD
      refine lv_aload_n hx hb dX8_make_19 rfl (lv_at hl 0 rfl) ?_
      refine va_get (D := D) (ci := 8) (v := .ref w2) (C := RX8) (T := TX8) (N := 4) hx hb hts iT_X8 hown hK hP 0 rfl rfl 2 (by decide) (hts _ tw_1_239) (fun _ h9 => h9) rfl dX8_make_20 ?_
      refine lv_iload_n hx hb dX8_make_23 rfl (lv_at hl 1 rfl) ?_
      refine lv_iload_n hx hb dX8_make_24 rfl (lv_at hl 2 rfl) ?_
      refine va_iast hx hb hK hP hD hS 3 0 rfl rfl (z_in (by decide) (by decide)) dX8_make_25 (fun H locs hP hD hS => ?_)
      have hP : va_P D vwCl [(rw, .inr (8, [.ref w0, .ref w1, .ref w2, .int 1])), (w0, .inl (k 2, 240, .inr (.inl fn))), (w1, .inl (k 0, 4, .inl fl)), (w2, .inl (k 0, 4, .inl (upd fw 0 p1)))] H := hP
      have hD : va_D A [(rw, .inr (8, [.ref w0, .ref w1, .ref w2, .int 1])), (w0, .inl (k 2, 240, .inr (.inl fn))), (w1, .inl (k 0, 4, .inl fl)), (w2, .inl (k 0, 4, .inl (upd fw 0 p1)))] := hD
      refine lv_aload_n hx hb dX8_make_26 rfl (lv_at hl 0 rfl) ?_
      refine va_get (D := D) (ci := 8) (v := .ref w1) (C := RX8) (T := TX8) (N := 4) hx hb hts iT_X8 hown hK hP 0 rfl rfl 1 (by decide) (hts _ tw_1_238) (fun _ h9 => h9) rfl dX8_make_27 ?_
      refine lv_iload_n hx hb dX8_make_30 rfl (lv_at hl 1 rfl) ?_
      refine lv_iload_n hx hb dX8_make_31 rfl (lv_at hl 3 rfl) ?_
      refine va_iast hx hb hK hP hD hS 2 0 rfl rfl (z_in (by decide) (by decide)) dX8_make_32 (fun H locs hP hD hS => ?_)
      have hP : va_P D vwCl [(rw, .inr (8, [.ref w0, .ref w1, .ref w2, .int 1])), (w0, .inl (k 2, 240, .inr (.inl fn))), (w1, .inl (k 0, 4, .inl (upd fl 0 p2))), (w2, .inl (k 0, 4, .inl (upd fw 0 p1)))] H := hP
      have hD : va_D A [(rw, .inr (8, [.ref w0, .ref w1, .ref w2, .int 1])), (w0, .inl (k 2, 240, .inr (.inl fn))), (w1, .inl (k 0, 4, .inl (upd fl 0 p2))), (w2, .inl (k 0, 4, .inl (upd fw 0 p1)))] := hD
      refine lv_iconst (v := 0) hx hb dX8_make_33 (by decide) ?_
      refine lv_istore (lv' := [(4, .int 0), (0, .ref rw), (1, .int 0), (2, .int p1), (3, .int p2)]) hx hb dX8_make_34 hl (by decide) rfl (fun ls hl => ?_)
      refine loop_r (Wg := fun H locs ls => W p l e _ s m _ below meth c H locs _ _ _ (F0 m 36 ls [])) (fun n9 H locs ls => ∃ (i : Int32) (gn : Nat → Int64), n9 = (60 - i.toInt).toNat ∧ (0 ≤ i.toInt) ∧ (i.toInt ≤ 60) ∧ va_P D vwCl [(rw, .inr (8, [.ref w0, .ref w1, .ref w2, .int 1])), (w0, .inl (k 2, 240, .inr (.inl gn))), (w1, .inl (k 0, 4, .inl (upd fl 0 p2))), (w2, .inl (k 0, 4, .inl (upd fw 0 p1)))] H ∧ va_D A [(rw, .inr (8, [.ref w0, .ref w1, .ref w2, .int 1])), (w0, .inl (k 2, 240, .inr (.inl gn))), (w1, .inl (k 0, 4, .inl (upd fl 0 p2))), (w2, .inl (k 0, 4, .inl (upd fw 0 p1)))] ∧ va_S A s.heap H locs ∧ lv_has ls 5 [(4, .int i), (0, .ref rw), (1, .int 0), (2, .int p1), (3, .int p2)]) (fun n9 H locs ls hI ih_6 => ?_) _ _ _ _ ⟨0, fn, rfl, (show 0 ≤ 0 from by omega), (show 0 ≤ 60 from by omega), hP.sub (ws' := [(rw, .inr (8, [.ref w0, .ref w1, .ref w2, .int 1])), (w0, .inl (k 2, 240, .inr (.inl fn))), (w1, .inl (k 0, 4, .inl (upd fl 0 p2))), (w2, .inl (k 0, 4, .inl (upd fw 0 p1)))]) [0, 1, 2, 3] rfl, hD.sub (ws' := [(rw, .inr (8, [.ref w0, .ref w1, .ref w2, .int 1])), (w0, .inl (k 2, 240, .inr (.inl fn))), (w1, .inl (k 0, 4, .inl (upd fl 0 p2))), (w2, .inl (k 0, 4, .inl (upd fw 0 p1)))]) [0, 1, 2, 3] (by decide) rfl, hS, lv_sub hl [0, 1, 2, 3, 4] rfl⟩
      clear hP hD hS hl
      obtain ⟨i, gn, en_7, hi1, hi2, hP, hD, hS, hl⟩ := hI
      refine lv_iload hx hb dX8_make_36 (lv_at hl 0 rfl) ?_
      refine lv_bipush (v := 60) hx hb dX8_make_38 (by decide) ?_
      refine lv_icmp_ge (tgt := 62) hx hb dX8_make_40 (by decide) (fun h_8 => ?_) (fun h_8 => ?_)
      · skip
        have zh_8 : 60 ≤ i.toInt := z_le h_8
        have hP9 := hP.sub (ws' := []) [] rfl
        have hD9 := hD.sub (ws' := []) [] (by decide) rfl
        exact W.vret hx hb hr (fun tZ ht hW => ⟨⟨(), rfl, trivial, by rw [ht]; exact hP9, va_K.moved hW.alike hK, hD9⟩, hS.F ht⟩) hS.2.2 dX8_make_62
      · skip
        have zh_8 : i.toInt < 60 := z_nle h_8
        refine lv_aload_n hx hb dX8_make_43 rfl (lv_at hl 1 rfl) ?_
        refine va_get (D := D) (ci := 8) (v := .ref w0) (C := RX8) (T := TX8) (N := 4) hx hb hts iT_X8 hown hK hP 0 rfl rfl 0 (by decide) (hts _ tw_1_237) (fun _ h9 => h9) rfl dX8_make_44 ?_
        refine lv_iload_n hx hb dX8_make_47 rfl (lv_at hl 2 rfl) ?_
        refine lv_bipush (v := 60) hx hb dX8_make_48 (by decide) ?_
        refine lv_imul hx hb dX8_make_50 ?_
        refine lv_topi (fun x_9 ex_9 => ?_)
        obtain rfl : x_9 = 0 := ex_9.trans (by decide)
        refine lv_iload hx hb dX8_make_51 (lv_at hl 0 rfl) ?_
        refine lv_iadd hx hb dX8_make_53 ?_
        refine lv_topi (fun x_10 ex_10 => ?_)
        have zx_10 : x_10.toInt = 0 + i.toInt := by rw [ex_10]; exact z_add rfl rfl (by omega) (by omega)
        refine lv_lconst (v := 0) hx hb dX8_make_54 (by decide) ?_
        refine va_last hx hb hK hP hD hS 1 2 rfl rfl (z_in (by omega) (by omega)) dX8_make_55 (fun H locs hP hD hS => ?_)
        have hP : va_P D vwCl [(rw, .inr (8, [.ref w0, .ref w1, .ref w2, .int 1])), (w0, .inl (k 2, 240, .inr (.inl (vp_updL gn x_10.toNatClampNeg 0)))), (w1, .inl (k 0, 4, .inl (upd fl 0 p2))), (w2, .inl (k 0, 4, .inl (upd fw 0 p1)))] H := hP
        have hD : va_D A [(rw, .inr (8, [.ref w0, .ref w1, .ref w2, .int 1])), (w0, .inl (k 2, 240, .inr (.inl (vp_updL gn x_10.toNatClampNeg 0)))), (w1, .inl (k 0, 4, .inl (upd fl 0 p2))), (w2, .inl (k 0, 4, .inl (upd fw 0 p1)))] := hD
        obtain ⟨x_11, ex_11⟩ : ∃ y : Int32, y = i + 1 := ⟨_, rfl⟩
        have zx_11 : x_11.toInt = i.toInt + 1 := by rw [ex_11]; exact z_add rfl rfl (by omega) (by omega)
        refine lv_iinc (v := x_11) (lv' := [(4, .int x_11), (0, .ref rw), (1, .int 0), (2, .int p1), (3, .int p2)]) hx hb dX8_make_56 hl (k := 0) rfl (by rw [ex_11]; rfl) (by decide) rfl (fun ls hl => ?_)
        refine lv_goto (tgt := 36) hx hb dX8_make_59 (by decide) ?_
        exact ih_6 _ _ _ _ (by omega) ⟨x_11, (vp_updL gn x_10.toNatClampNeg 0), rfl, (show 0 ≤ x_11.toInt from by omega), (show x_11.toInt ≤ 60 from by omega), hP.sub (ws' := [(rw, .inr (8, [.ref w0, .ref w1, .ref w2, .int 1])), (w0, .inl (k 2, 240, .inr (.inl (vp_updL gn x_10.toNatClampNeg 0)))), (w1, .inl (k 0, 4, .inl (upd fl 0 p2))), (w2, .inl (k 0, 4, .inl (upd fw 0 p1)))]) [0, 1, 2, 3] rfl, hD.sub (ws' := [(rw, .inr (8, [.ref w0, .ref w1, .ref w2, .int 1])), (w0, .inl (k 2, 240, .inr (.inl (vp_updL gn x_10.toNatClampNeg 0)))), (w1, .inl (k 0, 4, .inl (upd fl 0 p2))), (w2, .inl (k 0, 4, .inl (upd fw 0 p1)))]) [0, 1, 2, 3] (by decide) rfl, hS, lv_sub hl [0, 1, 2, 3, 4] rfl⟩
    · skip
      refine lv_aload_n hx hb dX8_make_7 rfl (lv_at hl 0 rfl) ?_
      refine lv_dup hx hb dX8_make_8 rfl ?_
      refine va_get (D := D) (ci := 8) (v := .int 0) (C := RX8) (T := TX8) (N := 4) hx hb hts iT_X8 hown hK hP 0 rfl rfl 3 (by decide) (hts _ tw_2_0) (fun _ h9 => h9) rfl dX8_make_9 ?_
      refine lv_iconst (v := 1) hx hb dX8_make_12 (by decide) ?_
      refine lv_iload_n hx hb dX8_make_13 rfl (lv_at hl 1 rfl) ?_
      refine lv_ishl hx hb dX8_make_14 ?_
      refine lv_topi (fun x_12 ex_12 => ?_)
      obtain rfl : x_12 = 2 := ex_12.trans (by decide)
      refine lv_ior hx hb dX8_make_15 ?_
      refine lv_topi (fun x_13 ex_13 => ?_)
      obtain rfl : x_13 = 2 := ex_13.trans (by decide)
      refine va_put (D := D) (ci := 8) (v := .int 2) (ty := tyX8 3) (C := RX8) (T := TX8) (N := 4) hx hb hts iT_X8 tyX8 tyX8_ok nmX8 hown hK hP hD hS 0 rfl rfl 3 (by decide) (hts _ tw_2_0) (fun _ h9 => h9) rfl (tyX8_ok 3 (by decide)) rfl rfl (Nat.le_of_ble_eq_true rfl) dX8_make_16 (fun H locs hP hD hS => ?_)
      have hP : va_P D vwCl [(rw, .inr (8, [.ref w0, .ref w1, .ref w2, .int 2])), (w0, .inl (k 2, 240, .inr (.inl fn))), (w1, .inl (k 0, 4, .inl fl)), (w2, .inl (k 0, 4, .inl fw))] H := hP
      have hD : va_D A [(rw, .inr (8, [.ref w0, .ref w1, .ref w2, .int 2])), (w0, .inl (k 2, 240, .inr (.inl fn))), (w1, .inl (k 0, 4, .inl fl)), (w2, .inl (k 0, 4, .inl fw))] := hD
      refine lv_aload_n hx hb dX8_make_19 rfl (lv_at hl 0 rfl) ?_
      refine va_get (D := D) (ci := 8) (v := .ref w2) (C := RX8) (T := TX8) (N := 4) hx hb hts iT_X8 hown hK hP 0 rfl rfl 2 (by decide) (hts _ tw_1_239) (fun _ h9 => h9) rfl dX8_make_20 ?_
      refine lv_iload_n hx hb dX8_make_23 rfl (lv_at hl 1 rfl) ?_
      refine lv_iload_n hx hb dX8_make_24 rfl (lv_at hl 2 rfl) ?_
      refine va_iast hx hb hK hP hD hS 3 0 rfl rfl (z_in (by decide) (by decide)) dX8_make_25 (fun H locs hP hD hS => ?_)
      have hP : va_P D vwCl [(rw, .inr (8, [.ref w0, .ref w1, .ref w2, .int 2])), (w0, .inl (k 2, 240, .inr (.inl fn))), (w1, .inl (k 0, 4, .inl fl)), (w2, .inl (k 0, 4, .inl (upd fw 1 p1)))] H := hP
      have hD : va_D A [(rw, .inr (8, [.ref w0, .ref w1, .ref w2, .int 2])), (w0, .inl (k 2, 240, .inr (.inl fn))), (w1, .inl (k 0, 4, .inl fl)), (w2, .inl (k 0, 4, .inl (upd fw 1 p1)))] := hD
      refine lv_aload_n hx hb dX8_make_26 rfl (lv_at hl 0 rfl) ?_
      refine va_get (D := D) (ci := 8) (v := .ref w1) (C := RX8) (T := TX8) (N := 4) hx hb hts iT_X8 hown hK hP 0 rfl rfl 1 (by decide) (hts _ tw_1_238) (fun _ h9 => h9) rfl dX8_make_27 ?_
      refine lv_iload_n hx hb dX8_make_30 rfl (lv_at hl 1 rfl) ?_
      refine lv_iload_n hx hb dX8_make_31 rfl (lv_at hl 3 rfl) ?_
      refine va_iast hx hb hK hP hD hS 2 0 rfl rfl (z_in (by decide) (by decide)) dX8_make_32 (fun H locs hP hD hS => ?_)
      have hP : va_P D vwCl [(rw, .inr (8, [.ref w0, .ref w1, .ref w2, .int 2])), (w0, .inl (k 2, 240, .inr (.inl fn))), (w1, .inl (k 0, 4, .inl (upd fl 1 p2))), (w2, .inl (k 0, 4, .inl (upd fw 1 p1)))] H := hP
      have hD : va_D A [(rw, .inr (8, [.ref w0, .ref w1, .ref w2, .int 2])), (w0, .inl (k 2, 240, .inr (.inl fn))), (w1, .inl (k 0, 4, .inl (upd fl 1 p2))), (w2, .inl (k 0, 4, .inl (upd fw 1 p1)))] := hD
      refine lv_iconst (v := 0) hx hb dX8_make_33 (by decide) ?_
      refine lv_istore (lv' := [(4, .int 0), (0, .ref rw), (1, .int 1), (2, .int p1), (3, .int p2)]) hx hb dX8_make_34 hl (by decide) rfl (fun ls hl => ?_)
      refine loop_r (Wg := fun H locs ls => W p l e _ s m _ below meth c H locs _ _ _ (F0 m 36 ls [])) (fun n9 H locs ls => ∃ (i : Int32) (gn : Nat → Int64), n9 = (60 - i.toInt).toNat ∧ (0 ≤ i.toInt) ∧ (i.toInt ≤ 60) ∧ va_P D vwCl [(rw, .inr (8, [.ref w0, .ref w1, .ref w2, .int 2])), (w0, .inl (k 2, 240, .inr (.inl gn))), (w1, .inl (k 0, 4, .inl (upd fl 1 p2))), (w2, .inl (k 0, 4, .inl (upd fw 1 p1)))] H ∧ va_D A [(rw, .inr (8, [.ref w0, .ref w1, .ref w2, .int 2])), (w0, .inl (k 2, 240, .inr (.inl gn))), (w1, .inl (k 0, 4, .inl (upd fl 1 p2))), (w2, .inl (k 0, 4, .inl (upd fw 1 p1)))] ∧ va_S A s.heap H locs ∧ lv_has ls 5 [(4, .int i), (0, .ref rw), (1, .int 1), (2, .int p1), (3, .int p2)]) (fun n9 H locs ls hI ih_14 => ?_) _ _ _ _ ⟨0, fn, rfl, (show 0 ≤ 0 from by omega), (show 0 ≤ 60 from by omega), hP.sub (ws' := [(rw, .inr (8, [.ref w0, .ref w1, .ref w2, .int 2])), (w0, .inl (k 2, 240, .inr (.inl fn))), (w1, .inl (k 0, 4, .inl (upd fl 1 p2))), (w2, .inl (k 0, 4, .inl (upd fw 1 p1)))]) [0, 1, 2, 3] rfl, hD.sub (ws' := [(rw, .inr (8, [.ref w0, .ref w1, .ref w2, .int 2])), (w0, .inl (k 2, 240, .inr (.inl fn))), (w1, .inl (k 0, 4, .inl (upd fl 1 p2))), (w2, .inl (k 0, 4, .inl (upd fw 1 p1)))]) [0, 1, 2, 3] (by decide) rfl, hS, lv_sub hl [0, 1, 2, 3, 4] rfl⟩
      clear hP hD hS hl
      obtain ⟨i, gn, en_15, hi1, hi2, hP, hD, hS, hl⟩ := hI
      refine lv_iload hx hb dX8_make_36 (lv_at hl 0 rfl) ?_
      refine lv_bipush (v := 60) hx hb dX8_make_38 (by decide) ?_
      refine lv_icmp_ge (tgt := 62) hx hb dX8_make_40 (by decide) (fun h_16 => ?_) (fun h_16 => ?_)
      · skip
        have zh_16 : 60 ≤ i.toInt := z_le h_16
        have hP9 := hP.sub (ws' := []) [] rfl
        have hD9 := hD.sub (ws' := []) [] (by decide) rfl
        exact W.vret hx hb hr (fun tZ ht hW => ⟨⟨(), rfl, trivial, by rw [ht]; exact hP9, va_K.moved hW.alike hK, hD9⟩, hS.F ht⟩) hS.2.2 dX8_make_62
      · skip
        have zh_16 : i.toInt < 60 := z_nle h_16
        refine lv_aload_n hx hb dX8_make_43 rfl (lv_at hl 1 rfl) ?_
        refine va_get (D := D) (ci := 8) (v := .ref w0) (C := RX8) (T := TX8) (N := 4) hx hb hts iT_X8 hown hK hP 0 rfl rfl 0 (by decide) (hts _ tw_1_237) (fun _ h9 => h9) rfl dX8_make_44 ?_
        refine lv_iload_n hx hb dX8_make_47 rfl (lv_at hl 2 rfl) ?_
        refine lv_bipush (v := 60) hx hb dX8_make_48 (by decide) ?_
        refine lv_imul hx hb dX8_make_50 ?_
        refine lv_topi (fun x_17 ex_17 => ?_)
        obtain rfl : x_17 = 60 := ex_17.trans (by decide)
        refine lv_iload hx hb dX8_make_51 (lv_at hl 0 rfl) ?_
        refine lv_iadd hx hb dX8_make_53 ?_
        refine lv_topi (fun x_18 ex_18 => ?_)
        have zx_18 : x_18.toInt = 60 + i.toInt := by rw [ex_18]; exact z_add rfl rfl (by omega) (by omega)
        refine lv_lconst (v := 0) hx hb dX8_make_54 (by decide) ?_
        refine va_last hx hb hK hP hD hS 1 2 rfl rfl (z_in (by omega) (by omega)) dX8_make_55 (fun H locs hP hD hS => ?_)
        have hP : va_P D vwCl [(rw, .inr (8, [.ref w0, .ref w1, .ref w2, .int 2])), (w0, .inl (k 2, 240, .inr (.inl (vp_updL gn x_18.toNatClampNeg 0)))), (w1, .inl (k 0, 4, .inl (upd fl 1 p2))), (w2, .inl (k 0, 4, .inl (upd fw 1 p1)))] H := hP
        have hD : va_D A [(rw, .inr (8, [.ref w0, .ref w1, .ref w2, .int 2])), (w0, .inl (k 2, 240, .inr (.inl (vp_updL gn x_18.toNatClampNeg 0)))), (w1, .inl (k 0, 4, .inl (upd fl 1 p2))), (w2, .inl (k 0, 4, .inl (upd fw 1 p1)))] := hD
        obtain ⟨x_19, ex_19⟩ : ∃ y : Int32, y = i + 1 := ⟨_, rfl⟩
        have zx_19 : x_19.toInt = i.toInt + 1 := by rw [ex_19]; exact z_add rfl rfl (by omega) (by omega)
        refine lv_iinc (v := x_19) (lv' := [(4, .int x_19), (0, .ref rw), (1, .int 1), (2, .int p1), (3, .int p2)]) hx hb dX8_make_56 hl (k := 0) rfl (by rw [ex_19]; rfl) (by decide) rfl (fun ls hl => ?_)
        refine lv_goto (tgt := 36) hx hb dX8_make_59 (by decide) ?_
        exact ih_14 _ _ _ _ (by omega) ⟨x_19, (vp_updL gn x_18.toNatClampNeg 0), rfl, (show 0 ≤ x_19.toInt from by omega), (show x_19.toInt ≤ 60 from by omega), hP.sub (ws' := [(rw, .inr (8, [.ref w0, .ref w1, .ref w2, .int 2])), (w0, .inl (k 2, 240, .inr (.inl (vp_updL gn x_18.toNatClampNeg 0)))), (w1, .inl (k 0, 4, .inl (upd fl 1 p2))), (w2, .inl (k 0, 4, .inl (upd fw 1 p1)))]) [0, 1, 2, 3] rfl, hD.sub (ws' := [(rw, .inr (8, [.ref w0, .ref w1, .ref w2, .int 2])), (w0, .inl (k 2, 240, .inr (.inl (vp_updL gn x_18.toNatClampNeg 0)))), (w1, .inl (k 0, 4, .inl (upd fl 1 p2))), (w2, .inl (k 0, 4, .inl (upd fw 1 p1)))]) [0, 1, 2, 3] (by decide) rfl, hS, lv_sub hl [0, 1, 2, 3, 4] rfl⟩
    · skip
      refine lv_aload_n hx hb dX8_make_7 rfl (lv_at hl 0 rfl) ?_
      refine lv_dup hx hb dX8_make_8 rfl ?_
      refine va_get (D := D) (ci := 8) (v := .int 0) (C := RX8) (T := TX8) (N := 4) hx hb hts iT_X8 hown hK hP 0 rfl rfl 3 (by decide) (hts _ tw_2_0) (fun _ h9 => h9) rfl dX8_make_9 ?_
      refine lv_iconst (v := 1) hx hb dX8_make_12 (by decide) ?_
      refine lv_iload_n hx hb dX8_make_13 rfl (lv_at hl 1 rfl) ?_
      refine lv_ishl hx hb dX8_make_14 ?_
      refine lv_topi (fun x_20 ex_20 => ?_)
      obtain rfl : x_20 = 4 := ex_20.trans (by decide)
      refine lv_ior hx hb dX8_make_15 ?_
      refine lv_topi (fun x_21 ex_21 => ?_)
      obtain rfl : x_21 = 4 := ex_21.trans (by decide)
      refine va_put (D := D) (ci := 8) (v := .int 4) (ty := tyX8 3) (C := RX8) (T := TX8) (N := 4) hx hb hts iT_X8 tyX8 tyX8_ok nmX8 hown hK hP hD hS 0 rfl rfl 3 (by decide) (hts _ tw_2_0) (fun _ h9 => h9) rfl (tyX8_ok 3 (by decide)) rfl rfl (Nat.le_of_ble_eq_true rfl) dX8_make_16 (fun H locs hP hD hS => ?_)
      have hP : va_P D vwCl [(rw, .inr (8, [.ref w0, .ref w1, .ref w2, .int 4])), (w0, .inl (k 2, 240, .inr (.inl fn))), (w1, .inl (k 0, 4, .inl fl)), (w2, .inl (k 0, 4, .inl fw))] H := hP
      have hD : va_D A [(rw, .inr (8, [.ref w0, .ref w1, .ref w2, .int 4])), (w0, .inl (k 2, 240, .inr (.inl fn))), (w1, .inl (k 0, 4, .inl fl)), (w2, .inl (k 0, 4, .inl fw))] := hD
      refine lv_aload_n hx hb dX8_make_19 rfl (lv_at hl 0 rfl) ?_
      refine va_get (D := D) (ci := 8) (v := .ref w2) (C := RX8) (T := TX8) (N := 4) hx hb hts iT_X8 hown hK hP 0 rfl rfl 2 (by decide) (hts _ tw_1_239) (fun _ h9 => h9) rfl dX8_make_20 ?_
      refine lv_iload_n hx hb dX8_make_23 rfl (lv_at hl 1 rfl) ?_
      refine lv_iload_n hx hb dX8_make_24 rfl (lv_at hl 2 rfl) ?_
      refine va_iast hx hb hK hP hD hS 3 0 rfl rfl (z_in (by decide) (by decide)) dX8_make_25 (fun H locs hP hD hS => ?_)
      have hP : va_P D vwCl [(rw, .inr (8, [.ref w0, .ref w1, .ref w2, .int 4])), (w0, .inl (k 2, 240, .inr (.inl fn))), (w1, .inl (k 0, 4, .inl fl)), (w2, .inl (k 0, 4, .inl (upd fw 2 p1)))] H := hP
      have hD : va_D A [(rw, .inr (8, [.ref w0, .ref w1, .ref w2, .int 4])), (w0, .inl (k 2, 240, .inr (.inl fn))), (w1, .inl (k 0, 4, .inl fl)), (w2, .inl (k 0, 4, .inl (upd fw 2 p1)))] := hD
      refine lv_aload_n hx hb dX8_make_26 rfl (lv_at hl 0 rfl) ?_
      refine va_get (D := D) (ci := 8) (v := .ref w1) (C := RX8) (T := TX8) (N := 4) hx hb hts iT_X8 hown hK hP 0 rfl rfl 1 (by decide) (hts _ tw_1_238) (fun _ h9 => h9) rfl dX8_make_27 ?_
      refine lv_iload_n hx hb dX8_make_30 rfl (lv_at hl 1 rfl) ?_
      refine lv_iload_n hx hb dX8_make_31 rfl (lv_at hl 3 rfl) ?_
      refine va_iast hx hb hK hP hD hS 2 0 rfl rfl (z_in (by decide) (by decide)) dX8_make_32 (fun H locs hP hD hS => ?_)
      have hP : va_P D vwCl [(rw, .inr (8, [.ref w0, .ref w1, .ref w2, .int 4])), (w0, .inl (k 2, 240, .inr (.inl fn))), (w1, .inl (k 0, 4, .inl (upd fl 2 p2))), (w2, .inl (k 0, 4, .inl (upd fw 2 p1)))] H := hP
      have hD : va_D A [(rw, .inr (8, [.ref w0, .ref w1, .ref w2, .int 4])), (w0, .inl (k 2, 240, .inr (.inl fn))), (w1, .inl (k 0, 4, .inl (upd fl 2 p2))), (w2, .inl (k 0, 4, .inl (upd fw 2 p1)))] := hD
      refine lv_iconst (v := 0) hx hb dX8_make_33 (by decide) ?_
      refine lv_istore (lv' := [(4, .int 0), (0, .ref rw), (1, .int 2), (2, .int p1), (3, .int p2)]) hx hb dX8_make_34 hl (by decide) rfl (fun ls hl => ?_)
      refine loop_r (Wg := fun H locs ls => W p l e _ s m _ below meth c H locs _ _ _ (F0 m 36 ls [])) (fun n9 H locs ls => ∃ (i : Int32) (gn : Nat → Int64), n9 = (60 - i.toInt).toNat ∧ (0 ≤ i.toInt) ∧ (i.toInt ≤ 60) ∧ va_P D vwCl [(rw, .inr (8, [.ref w0, .ref w1, .ref w2, .int 4])), (w0, .inl (k 2, 240, .inr (.inl gn))), (w1, .inl (k 0, 4, .inl (upd fl 2 p2))), (w2, .inl (k 0, 4, .inl (upd fw 2 p1)))] H ∧ va_D A [(rw, .inr (8, [.ref w0, .ref w1, .ref w2, .int 4])), (w0, .inl (k 2, 240, .inr (.inl gn))), (w1, .inl (k 0, 4, .inl (upd fl 2 p2))), (w2, .inl (k 0, 4, .inl (upd fw 2 p1)))] ∧ va_S A s.heap H locs ∧ lv_has ls 5 [(4, .int i), (0, .ref rw), (1, .int 2), (2, .int p1), (3, .int p2)]) (fun n9 H locs ls hI ih_22 => ?_) _ _ _ _ ⟨0, fn, rfl, (show 0 ≤ 0 from by omega), (show 0 ≤ 60 from by omega), hP.sub (ws' := [(rw, .inr (8, [.ref w0, .ref w1, .ref w2, .int 4])), (w0, .inl (k 2, 240, .inr (.inl fn))), (w1, .inl (k 0, 4, .inl (upd fl 2 p2))), (w2, .inl (k 0, 4, .inl (upd fw 2 p1)))]) [0, 1, 2, 3] rfl, hD.sub (ws' := [(rw, .inr (8, [.ref w0, .ref w1, .ref w2, .int 4])), (w0, .inl (k 2, 240, .inr (.inl fn))), (w1, .inl (k 0, 4, .inl (upd fl 2 p2))), (w2, .inl (k 0, 4, .inl (upd fw 2 p1)))]) [0, 1, 2, 3] (by decide) rfl, hS, lv_sub hl [0, 1, 2, 3, 4] rfl⟩
      clear hP hD hS hl
      obtain ⟨i, gn, en_23, hi1, hi2, hP, hD, hS, hl⟩ := hI
      refine lv_iload hx hb dX8_make_36 (lv_at hl 0 rfl) ?_
      refine lv_bipush (v := 60) hx hb dX8_make_38 (by decide) ?_
      refine lv_icmp_ge (tgt := 62) hx hb dX8_make_40 (by decide) (fun h_24 => ?_) (fun h_24 => ?_)
      · skip
        have zh_24 : 60 ≤ i.toInt := z_le h_24
        have hP9 := hP.sub (ws' := []) [] rfl
        have hD9 := hD.sub (ws' := []) [] (by decide) rfl
        exact W.vret hx hb hr (fun tZ ht hW => ⟨⟨(), rfl, trivial, by rw [ht]; exact hP9, va_K.moved hW.alike hK, hD9⟩, hS.F ht⟩) hS.2.2 dX8_make_62
      · skip
        have zh_24 : i.toInt < 60 := z_nle h_24
        refine lv_aload_n hx hb dX8_make_43 rfl (lv_at hl 1 rfl) ?_
        refine va_get (D := D) (ci := 8) (v := .ref w0) (C := RX8) (T := TX8) (N := 4) hx hb hts iT_X8 hown hK hP 0 rfl rfl 0 (by decide) (hts _ tw_1_237) (fun _ h9 => h9) rfl dX8_make_44 ?_
        refine lv_iload_n hx hb dX8_make_47 rfl (lv_at hl 2 rfl) ?_
        refine lv_bipush (v := 60) hx hb dX8_make_48 (by decide) ?_
        refine lv_imul hx hb dX8_make_50 ?_
        refine lv_topi (fun x_25 ex_25 => ?_)
        obtain rfl : x_25 = 120 := ex_25.trans (by decide)
        refine lv_iload hx hb dX8_make_51 (lv_at hl 0 rfl) ?_
        refine lv_iadd hx hb dX8_make_53 ?_
        refine lv_topi (fun x_26 ex_26 => ?_)
        have zx_26 : x_26.toInt = 120 + i.toInt := by rw [ex_26]; exact z_add rfl rfl (by omega) (by omega)
        refine lv_lconst (v := 0) hx hb dX8_make_54 (by decide) ?_
        refine va_last hx hb hK hP hD hS 1 2 rfl rfl (z_in (by omega) (by omega)) dX8_make_55 (fun H locs hP hD hS => ?_)
        have hP : va_P D vwCl [(rw, .inr (8, [.ref w0, .ref w1, .ref w2, .int 4])), (w0, .inl (k 2, 240, .inr (.inl (vp_updL gn x_26.toNatClampNeg 0)))), (w1, .inl (k 0, 4, .inl (upd fl 2 p2))), (w2, .inl (k 0, 4, .inl (upd fw 2 p1)))] H := hP
        have hD : va_D A [(rw, .inr (8, [.ref w0, .ref w1, .ref w2, .int 4])), (w0, .inl (k 2, 240, .inr (.inl (vp_updL gn x_26.toNatClampNeg 0)))), (w1, .inl (k 0, 4, .inl (upd fl 2 p2))), (w2, .inl (k 0, 4, .inl (upd fw 2 p1)))] := hD
        obtain ⟨x_27, ex_27⟩ : ∃ y : Int32, y = i + 1 := ⟨_, rfl⟩
        have zx_27 : x_27.toInt = i.toInt + 1 := by rw [ex_27]; exact z_add rfl rfl (by omega) (by omega)
        refine lv_iinc (v := x_27) (lv' := [(4, .int x_27), (0, .ref rw), (1, .int 2), (2, .int p1), (3, .int p2)]) hx hb dX8_make_56 hl (k := 0) rfl (by rw [ex_27]; rfl) (by decide) rfl (fun ls hl => ?_)
        refine lv_goto (tgt := 36) hx hb dX8_make_59 (by decide) ?_
        exact ih_22 _ _ _ _ (by omega) ⟨x_27, (vp_updL gn x_26.toNatClampNeg 0), rfl, (show 0 ≤ x_27.toInt from by omega), (show x_27.toInt ≤ 60 from by omega), hP.sub (ws' := [(rw, .inr (8, [.ref w0, .ref w1, .ref w2, .int 4])), (w0, .inl (k 2, 240, .inr (.inl (vp_updL gn x_26.toNatClampNeg 0)))), (w1, .inl (k 0, 4, .inl (upd fl 2 p2))), (w2, .inl (k 0, 4, .inl (upd fw 2 p1)))]) [0, 1, 2, 3] rfl, hD.sub (ws' := [(rw, .inr (8, [.ref w0, .ref w1, .ref w2, .int 4])), (w0, .inl (k 2, 240, .inr (.inl (vp_updL gn x_26.toNatClampNeg 0)))), (w1, .inl (k 0, 4, .inl (upd fl 2 p2))), (w2, .inl (k 0, 4, .inl (upd fw 2 p1)))]) [0, 1, 2, 3] (by decide) rfl, hS, lv_sub hl [0, 1, 2, 3, 4] rfl⟩
    · skip
      refine lv_aload_n hx hb dX8_make_7 rfl (lv_at hl 0 rfl) ?_
      refine lv_dup hx hb dX8_make_8 rfl ?_
      refine va_get (D := D) (ci := 8) (v := .int 0) (C := RX8) (T := TX8) (N := 4) hx hb hts iT_X8 hown hK hP 0 rfl rfl 3 (by decide) (hts _ tw_2_0) (fun _ h9 => h9) rfl dX8_make_9 ?_
      refine lv_iconst (v := 1) hx hb dX8_make_12 (by decide) ?_
      refine lv_iload_n hx hb dX8_make_13 rfl (lv_at hl 1 rfl) ?_
      refine lv_ishl hx hb dX8_make_14 ?_
      refine lv_topi (fun x_28 ex_28 => ?_)
      obtain rfl : x_28 = 8 := ex_28.trans (by decide)
      refine lv_ior hx hb dX8_make_15 ?_
      refine lv_topi (fun x_29 ex_29 => ?_)
      obtain rfl : x_29 = 8 := ex_29.trans (by decide)
      refine va_put (D := D) (ci := 8) (v := .int 8) (ty := tyX8 3) (C := RX8) (T := TX8) (N := 4) hx hb hts iT_X8 tyX8 tyX8_ok nmX8 hown hK hP hD hS 0 rfl rfl 3 (by decide) (hts _ tw_2_0) (fun _ h9 => h9) rfl (tyX8_ok 3 (by decide)) rfl rfl (Nat.le_of_ble_eq_true rfl) dX8_make_16 (fun H locs hP hD hS => ?_)
      have hP : va_P D vwCl [(rw, .inr (8, [.ref w0, .ref w1, .ref w2, .int 8])), (w0, .inl (k 2, 240, .inr (.inl fn))), (w1, .inl (k 0, 4, .inl fl)), (w2, .inl (k 0, 4, .inl fw))] H := hP
      have hD : va_D A [(rw, .inr (8, [.ref w0, .ref w1, .ref w2, .int 8])), (w0, .inl (k 2, 240, .inr (.inl fn))), (w1, .inl (k 0, 4, .inl fl)), (w2, .inl (k 0, 4, .inl fw))] := hD
      refine lv_aload_n hx hb dX8_make_19 rfl (lv_at hl 0 rfl) ?_
      refine va_get (D := D) (ci := 8) (v := .ref w2) (C := RX8) (T := TX8) (N := 4) hx hb hts iT_X8 hown hK hP 0 rfl rfl 2 (by decide) (hts _ tw_1_239) (fun _ h9 => h9) rfl dX8_make_20 ?_
      refine lv_iload_n hx hb dX8_make_23 rfl (lv_at hl 1 rfl) ?_
      refine lv_iload_n hx hb dX8_make_24 rfl (lv_at hl 2 rfl) ?_
      refine va_iast hx hb hK hP hD hS 3 0 rfl rfl (z_in (by decide) (by decide)) dX8_make_25 (fun H locs hP hD hS => ?_)
      have hP : va_P D vwCl [(rw, .inr (8, [.ref w0, .ref w1, .ref w2, .int 8])), (w0, .inl (k 2, 240, .inr (.inl fn))), (w1, .inl (k 0, 4, .inl fl)), (w2, .inl (k 0, 4, .inl (upd fw 3 p1)))] H := hP
      have hD : va_D A [(rw, .inr (8, [.ref w0, .ref w1, .ref w2, .int 8])), (w0, .inl (k 2, 240, .inr (.inl fn))), (w1, .inl (k 0, 4, .inl fl)), (w2, .inl (k 0, 4, .inl (upd fw 3 p1)))] := hD
      refine lv_aload_n hx hb dX8_make_26 rfl (lv_at hl 0 rfl) ?_
      refine va_get (D := D) (ci := 8) (v := .ref w1) (C := RX8) (T := TX8) (N := 4) hx hb hts iT_X8 hown hK hP 0 rfl rfl 1 (by decide) (hts _ tw_1_238) (fun _ h9 => h9) rfl dX8_make_27 ?_
      refine lv_iload_n hx hb dX8_make_30 rfl (lv_at hl 1 rfl) ?_
      refine lv_iload_n hx hb dX8_make_31 rfl (lv_at hl 3 rfl) ?_
      refine va_iast hx hb hK hP hD hS 2 0 rfl rfl (z_in (by decide) (by decide)) dX8_make_32 (fun H locs hP hD hS => ?_)
      have hP : va_P D vwCl [(rw, .inr (8, [.ref w0, .ref w1, .ref w2, .int 8])), (w0, .inl (k 2, 240, .inr (.inl fn))), (w1, .inl (k 0, 4, .inl (upd fl 3 p2))), (w2, .inl (k 0, 4, .inl (upd fw 3 p1)))] H := hP
      have hD : va_D A [(rw, .inr (8, [.ref w0, .ref w1, .ref w2, .int 8])), (w0, .inl (k 2, 240, .inr (.inl fn))), (w1, .inl (k 0, 4, .inl (upd fl 3 p2))), (w2, .inl (k 0, 4, .inl (upd fw 3 p1)))] := hD
      refine lv_iconst (v := 0) hx hb dX8_make_33 (by decide) ?_
      refine lv_istore (lv' := [(4, .int 0), (0, .ref rw), (1, .int 3), (2, .int p1), (3, .int p2)]) hx hb dX8_make_34 hl (by decide) rfl (fun ls hl => ?_)
      refine loop_r (Wg := fun H locs ls => W p l e _ s m _ below meth c H locs _ _ _ (F0 m 36 ls [])) (fun n9 H locs ls => ∃ (i : Int32) (gn : Nat → Int64), n9 = (60 - i.toInt).toNat ∧ (0 ≤ i.toInt) ∧ (i.toInt ≤ 60) ∧ va_P D vwCl [(rw, .inr (8, [.ref w0, .ref w1, .ref w2, .int 8])), (w0, .inl (k 2, 240, .inr (.inl gn))), (w1, .inl (k 0, 4, .inl (upd fl 3 p2))), (w2, .inl (k 0, 4, .inl (upd fw 3 p1)))] H ∧ va_D A [(rw, .inr (8, [.ref w0, .ref w1, .ref w2, .int 8])), (w0, .inl (k 2, 240, .inr (.inl gn))), (w1, .inl (k 0, 4, .inl (upd fl 3 p2))), (w2, .inl (k 0, 4, .inl (upd fw 3 p1)))] ∧ va_S A s.heap H locs ∧ lv_has ls 5 [(4, .int i), (0, .ref rw), (1, .int 3), (2, .int p1), (3, .int p2)]) (fun n9 H locs ls hI ih_30 => ?_) _ _ _ _ ⟨0, fn, rfl, (show 0 ≤ 0 from by omega), (show 0 ≤ 60 from by omega), hP.sub (ws' := [(rw, .inr (8, [.ref w0, .ref w1, .ref w2, .int 8])), (w0, .inl (k 2, 240, .inr (.inl fn))), (w1, .inl (k 0, 4, .inl (upd fl 3 p2))), (w2, .inl (k 0, 4, .inl (upd fw 3 p1)))]) [0, 1, 2, 3] rfl, hD.sub (ws' := [(rw, .inr (8, [.ref w0, .ref w1, .ref w2, .int 8])), (w0, .inl (k 2, 240, .inr (.inl fn))), (w1, .inl (k 0, 4, .inl (upd fl 3 p2))), (w2, .inl (k 0, 4, .inl (upd fw 3 p1)))]) [0, 1, 2, 3] (by decide) rfl, hS, lv_sub hl [0, 1, 2, 3, 4] rfl⟩
      clear hP hD hS hl
      obtain ⟨i, gn, en_31, hi1, hi2, hP, hD, hS, hl⟩ := hI
      refine lv_iload hx hb dX8_make_36 (lv_at hl 0 rfl) ?_
      refine lv_bipush (v := 60) hx hb dX8_make_38 (by decide) ?_
      refine lv_icmp_ge (tgt := 62) hx hb dX8_make_40 (by decide) (fun h_32 => ?_) (fun h_32 => ?_)
      · skip
        have zh_32 : 60 ≤ i.toInt := z_le h_32
        have hP9 := hP.sub (ws' := []) [] rfl
        have hD9 := hD.sub (ws' := []) [] (by decide) rfl
        exact W.vret hx hb hr (fun tZ ht hW => ⟨⟨(), rfl, trivial, by rw [ht]; exact hP9, va_K.moved hW.alike hK, hD9⟩, hS.F ht⟩) hS.2.2 dX8_make_62
      · skip
        have zh_32 : i.toInt < 60 := z_nle h_32
        refine lv_aload_n hx hb dX8_make_43 rfl (lv_at hl 1 rfl) ?_
        refine va_get (D := D) (ci := 8) (v := .ref w0) (C := RX8) (T := TX8) (N := 4) hx hb hts iT_X8 hown hK hP 0 rfl rfl 0 (by decide) (hts _ tw_1_237) (fun _ h9 => h9) rfl dX8_make_44 ?_
        refine lv_iload_n hx hb dX8_make_47 rfl (lv_at hl 2 rfl) ?_
        refine lv_bipush (v := 60) hx hb dX8_make_48 (by decide) ?_
        refine lv_imul hx hb dX8_make_50 ?_
        refine lv_topi (fun x_33 ex_33 => ?_)
        obtain rfl : x_33 = 180 := ex_33.trans (by decide)
        refine lv_iload hx hb dX8_make_51 (lv_at hl 0 rfl) ?_
        refine lv_iadd hx hb dX8_make_53 ?_
        refine lv_topi (fun x_34 ex_34 => ?_)
        have zx_34 : x_34.toInt = 180 + i.toInt := by rw [ex_34]; exact z_add rfl rfl (by omega) (by omega)
        refine lv_lconst (v := 0) hx hb dX8_make_54 (by decide) ?_
        refine va_last hx hb hK hP hD hS 1 2 rfl rfl (z_in (by omega) (by omega)) dX8_make_55 (fun H locs hP hD hS => ?_)
        have hP : va_P D vwCl [(rw, .inr (8, [.ref w0, .ref w1, .ref w2, .int 8])), (w0, .inl (k 2, 240, .inr (.inl (vp_updL gn x_34.toNatClampNeg 0)))), (w1, .inl (k 0, 4, .inl (upd fl 3 p2))), (w2, .inl (k 0, 4, .inl (upd fw 3 p1)))] H := hP
        have hD : va_D A [(rw, .inr (8, [.ref w0, .ref w1, .ref w2, .int 8])), (w0, .inl (k 2, 240, .inr (.inl (vp_updL gn x_34.toNatClampNeg 0)))), (w1, .inl (k 0, 4, .inl (upd fl 3 p2))), (w2, .inl (k 0, 4, .inl (upd fw 3 p1)))] := hD
        obtain ⟨x_35, ex_35⟩ : ∃ y : Int32, y = i + 1 := ⟨_, rfl⟩
        have zx_35 : x_35.toInt = i.toInt + 1 := by rw [ex_35]; exact z_add rfl rfl (by omega) (by omega)
        refine lv_iinc (v := x_35) (lv' := [(4, .int x_35), (0, .ref rw), (1, .int 3), (2, .int p1), (3, .int p2)]) hx hb dX8_make_56 hl (k := 0) rfl (by rw [ex_35]; rfl) (by decide) rfl (fun ls hl => ?_)
        refine lv_goto (tgt := 36) hx hb dX8_make_59 (by decide) ?_
        exact ih_30 _ _ _ _ (by omega) ⟨x_35, (vp_updL gn x_34.toNatClampNeg 0), rfl, (show 0 ≤ x_35.toInt from by omega), (show x_35.toInt ≤ 60 from by omega), hP.sub (ws' := [(rw, .inr (8, [.ref w0, .ref w1, .ref w2, .int 8])), (w0, .inl (k 2, 240, .inr (.inl (vp_updL gn x_34.toNatClampNeg 0)))), (w1, .inl (k 0, 4, .inl (upd fl 3 p2))), (w2, .inl (k 0, 4, .inl (upd fw 3 p1)))]) [0, 1, 2, 3] rfl, hD.sub (ws' := [(rw, .inr (8, [.ref w0, .ref w1, .ref w2, .int 8])), (w0, .inl (k 2, 240, .inr (.inl (vp_updL gn x_34.toNatClampNeg 0)))), (w1, .inl (k 0, 4, .inl (upd fl 3 p2))), (w2, .inl (k 0, 4, .inl (upd fw 3 p1)))]) [0, 1, 2, 3] (by decide) rfl, hS, lv_sub hl [0, 1, 2, 3, 4] rfl⟩
set_option maxHeartbeats 4000000 in
set_option maxRecDepth 100000 in
theorem c_X8_stands (l : Launch) (D : va_G) (k : Nat → ClassId) (rw : Nat) (w0 : Nat) (w1 : Nat) (w2 : Nat) (p0 : Int32) (sz : Nat) : Met l yX8_stands (ww yX8_stands cX8_stands 2 (some .boolean)) ({ frames := 0, cells := 0, slots := 0, locals := 0 }) (Pre0 D k [(rw, .inr (8, [.ref w0, .ref w1, .ref w2, .int 0]))] sz [.ref rw, .int p0]) (va_Qi (fun (r : Int32) (_ : Unit) => r = 0) (fun (_ : Unit) tZ => Bw D k (va_A [(rw, .inr (8, [.ref w0, .ref w1, .ref w2, .int 0]))] sz) [(rw, .inr (8, [.ref w0, .ref w1, .ref w2, .int 0]))] tZ) (va_A [(rw, .inr (8, [.ref w0, .ref w1, .ref w2, .int 0]))] sz)) 0 0 (va_A [(rw, .inr (8, [.ref w0, .ref w1, .ref w2, .int 0]))] sz) := by
  refine Met.ofW (cc := cX8_stands) (maxL := 2) (ret := (some .boolean)) (by decide +kernel) rfl ?_
  intro p e s m args below meth c s₁ B hml hv
  obtain ⟨rfl, hsz, hP, hK, hD0, hN⟩ := hv
  have hx := B.exec
  have hb := B.bytes
  have hr := B.returns
  have hts : ∀ w ∈ TT, w.before _ s = true := fun w h => atoms_spec (ws := ww yX8_stands cX8_stands 2 (some .boolean)) B.pre w (List.mem_cons_of_mem _ h)
  have hown : s.vm.findClass RX8 = some m.cls := findClass_of_methodNamed B.named
  have hlocks := B.notSynchronized
  subst hsz
  have hD := hD0.self (sz := s.heap.size)
  generalize hAe : va_A [(rw, .inr (8, [.ref w0, .ref w1, .ref w2, .int 0]))] s.heap.size = A at hD ⊢
  have hA : ∀ q : Nat, s.heap.size ≤ q → A q := fun q h => by rw [← hAe]; exact Or.inr h
  have hS : va_S A s.heap s.heap [] := va_S.rf
  have hl := lv_entry ([.ref rw, .int p0]) (n := 2) (Nat.le_of_ble_eq_true rfl)
  rw [lg_entry_eq]
  generalize (lg_sl ([.ref rw, .int p0]) ++ List.replicate (2 - (lg_sl ([.ref rw, .int p0])).length) Slot.unset).toArray = ls at hl ⊢
  have hl : lv_has ls 2 [(0, .ref rw), (1, .int p0)] := hl
  refine lv_aload_n hx hb dX8_stands_0 rfl (lv_at hl 0 rfl) ?_
  refine va_get (D := D) (ci := 8) (v := .int 0) (C := RX8) (T := TX8) (N := 4) hx hb hts iT_X8 hown hK hP 0 rfl rfl 3 (by decide) (hts _ tw_2_0) (fun _ h9 => h9) rfl dX8_stands_1 ?_
  refine lv_iload_n hx hb dX8_stands_4 rfl (lv_at hl 1 rfl) ?_
  refine lv_ishr hx hb dX8_stands_5 ?_
  refine lv_topi (fun x_1 ex_1 => ?_)
  obtain rfl : x_1 = 0 := ex_1.trans (z_ishr0 _)
  refine lv_iconst (v := 1) hx hb dX8_stands_6 (by decide) ?_
  refine lv_iand hx hb dX8_stands_7 ?_
  refine lv_topi (fun x_2 ex_2 => ?_)
  obtain rfl : x_2 = 0 := ex_2.trans (by decide)
  refine lv_iconst (v := 1) hx hb dX8_stands_8 (by decide) ?_
  refine lv_icmp_ne (tgt := 16) hx hb dX8_stands_9 (by decide) (fun _ => ?_) (fun c9 => absurd c9 (by decide))
  refine lv_iconst (v := 0) hx hb dX8_stands_16 (by decide) ?_
  have hP9 := hP.sub (ws' := [(rw, .inr (8, [.ref w0, .ref w1, .ref w2, .int 0]))]) [0] rfl
  have hD9 := hD.sub (ws' := [(rw, .inr (8, [.ref w0, .ref w1, .ref w2, .int 0]))]) [0] (by decide) rfl
  exact W.zret (v := 0) hx hb hr (by decide) (fun tZ ht hW => ⟨⟨0, (), rfl, rfl, by rw [ht]; exact hP9, va_K.moved hW.alike hK, hD9⟩, hS.F ht⟩) hS.2.2 dX8_stands_17
set_option maxHeartbeats 4000000 in
set_option maxRecDepth 100000 in
theorem c_X11_row (l : Launch) (D : va_G) (k : Nat → ClassId) (g : Nat) (g0 : Nat) (g1 : Nat) (g2 : Nat) (g4 : Nat) (g5 : Nat) (g6 : Nat) (g7 : Nat) (g8 : Nat) (g9 : Nat) (g10 : Nat) (g11 : Nat) (g12 : Nat) (w0 : Nat) (w1 : Nat) (w2 : Nat) (fn : Nat → Int64) (fl : Nat → Int32) (fw : Nat → Int32) (p0 : Int32) (p1 : Int32) (p2 : Int32) (sz : Nat) : Met l yX11_row (ww yX11_row cX11_row 4 (some .int)) ({ frames := 2, cells := 0, slots := 0, locals := 44 }) (Pre0 D k [(g, .inr (11, [.ref g0, .ref g1, .ref g2, .int 0, .ref g4, .ref g5, .ref g6, .ref g7, .ref g8, .ref g9, .ref g10, .ref g11, .ref g12])), (g4, .inr (8, [.ref w0, .ref w1, .ref w2, .int 0])), (w0, .inl (k 2, 240, .inr (.inl fn))), (w1, .inl (k 0, 4, .inl fl)), (w2, .inl (k 0, 4, .inl fw))] sz [.ref g, .int p0, .int p1, .int p2]) (va_Qi (fun (r : Int32) (_ : Unit) => r = sp_row p0 p1 p2) (fun (_ : Unit) tZ => Bw D k (va_A [(g, .inr (11, [.ref g0, .ref g1, .ref g2, .int 0, .ref g4, .ref g5, .ref g6, .ref g7, .ref g8, .ref g9, .ref g10, .ref g11, .ref g12])), (g4, .inr (8, [.ref w0, .ref w1, .ref w2, .int 0])), (w0, .inl (k 2, 240, .inr (.inl fn))), (w1, .inl (k 0, 4, .inl fl)), (w2, .inl (k 0, 4, .inl fw))] sz) [] tZ) (va_A [(g, .inr (11, [.ref g0, .ref g1, .ref g2, .int 0, .ref g4, .ref g5, .ref g6, .ref g7, .ref g8, .ref g9, .ref g10, .ref g11, .ref g12])), (g4, .inr (8, [.ref w0, .ref w1, .ref w2, .int 0])), (w0, .inl (k 2, 240, .inr (.inl fn))), (w1, .inl (k 0, 4, .inl fl)), (w2, .inl (k 0, 4, .inl fw))] sz)) 0 0 (va_A [(g, .inr (11, [.ref g0, .ref g1, .ref g2, .int 0, .ref g4, .ref g5, .ref g6, .ref g7, .ref g8, .ref g9, .ref g10, .ref g11, .ref g12])), (g4, .inr (8, [.ref w0, .ref w1, .ref w2, .int 0])), (w0, .inl (k 2, 240, .inr (.inl fn))), (w1, .inl (k 0, 4, .inl fl)), (w2, .inl (k 0, 4, .inl fw))] sz) := by
  refine Met.ofW (cc := cX11_row) (maxL := 4) (ret := (some .int)) (by decide +kernel) rfl ?_
  intro p e s m args below meth c s₁ B hml hv
  obtain ⟨rfl, hsz, hP, hK, hD0, hN⟩ := hv
  have hx := B.exec
  have hb := B.bytes
  have hr := B.returns
  have hts : ∀ w ∈ TT, w.before _ s = true := fun w h => atoms_spec (ws := ww yX11_row cX11_row 4 (some .int)) B.pre w (List.mem_cons_of_mem _ h)
  have hown : s.vm.findClass RX11 = some m.cls := findClass_of_methodNamed B.named
  have hlocks := B.notSynchronized
  subst hsz
  have hD := hD0.self (sz := s.heap.size)
  generalize hAe : va_A [(g, .inr (11, [.ref g0, .ref g1, .ref g2, .int 0, .ref g4, .ref g5, .ref g6, .ref g7, .ref g8, .ref g9, .ref g10, .ref g11, .ref g12])), (g4, .inr (8, [.ref w0, .ref w1, .ref w2, .int 0])), (w0, .inl (k 2, 240, .inr (.inl fn))), (w1, .inl (k 0, 4, .inl fl)), (w2, .inl (k 0, 4, .inl fw))] s.heap.size = A at hD ⊢
  have hA : ∀ q : Nat, s.heap.size ≤ q → A q := fun q h => by rw [← hAe]; exact Or.inr h
  have hS : va_S A s.heap s.heap [] := va_S.rf
  have hl := lv_entry ([.ref g, .int p0, .int p1, .int p2]) (n := 4) (Nat.le_of_ble_eq_true rfl)
  rw [lg_entry_eq]
  generalize (lg_sl ([.ref g, .int p0, .int p1, .int p2]) ++ List.replicate (4 - (lg_sl ([.ref g, .int p0, .int p1, .int p2])).length) Slot.unset).toArray = ls at hl ⊢
  have hl : lv_has ls 4 [(0, .ref g), (1, .int p0), (2, .int p1), (3, .int p2)] := hl
  refine lv_iload_n hx hb dX11_row_0 rfl (lv_at hl 1 rfl) ?_
  have hPc := hP.sub (ws' := []) [] rfl
  have hDc := hD.sub (ws' := []) [] (by decide) rfl
  have hFc := va_free (wc := []) hD hS hA [] rfl
  refine va_calli (va_runS (As := [.int p0]) (rest := []) ⟨hx, hb, hml, hown, hts⟩ (c_X8_isSlot l D k p0 s.heap.size) (va_cwS 1 hts (gS tw_4_213 tw_4_214 tw_1_5 tw_4_215) rfl rfl rfl hdS_X8_isSlot ⟨Nat.le_of_ble_eq_true rfl, Nat.le_of_ble_eq_true rfl⟩) (cz_S hK hPc hDc hN [.int p0]) rfl rfl hl.1 rfl (lv_room (Nat.le_of_ble_eq_true rfl)) dX11_row_1 ⟨Nat.le_of_ble_eq_true rfl, Nat.le_of_ble_eq_true rfl⟩) hS (fun q _ h => hFc q h) hFc (fun r_1 uZ tZ H1 locs ht hvm hw hB hz1 hk1 hS => ?_)
  obtain ⟨hP1, hK1, hD1⟩ := hB
  rw [ht] at hP1
  obtain ⟨hP, hD⟩ := va_join (wr := [(g, .inr (11, [.ref g0, .ref g1, .ref g2, .int 0, .ref g4, .ref g5, .ref g6, .ref g7, .ref g8, .ref g9, .ref g10, .ref g11, .ref g12])), (g4, .inr (8, [.ref w0, .ref w1, .ref w2, .int 0])), (w0, .inl (k 2, 240, .inr (.inl fn))), (w1, .inl (k 0, 4, .inl fl)), (w2, .inl (k 0, 4, .inl fw))]) (w1 := []) hP hD [] [0, 1, 2, 3, 4] rfl rfl (by decide) (by decide) hk1 hFc hP1 hD1
  clear hK1 hP1 hD1 hPc hDc hFc
  clear hk1 hz1 ht hvm
  have hP : va_P D vwCl [(g, .inr (11, [.ref g0, .ref g1, .ref g2, .int 0, .ref g4, .ref g5, .ref g6, .ref g7, .ref g8, .ref g9, .ref g10, .ref g11, .ref g12])), (g4, .inr (8, [.ref w0, .ref w1, .ref w2, .int 0])), (w0, .inl (k 2, 240, .inr (.inl fn))), (w1, .inl (k 0, 4, .inl fl)), (w2, .inl (k 0, 4, .inl fw))] H1 := hP
  have hD : va_D A [(g, .inr (11, [.ref g0, .ref g1, .ref g2, .int 0, .ref g4, .ref g5, .ref g6, .ref g7, .ref g8, .ref g9, .ref g10, .ref g11, .ref g12])), (g4, .inr (8, [.ref w0, .ref w1, .ref w2, .int 0])), (w0, .inl (k 2, 240, .inr (.inl fn))), (w1, .inl (k 0, 4, .inl fl)), (w2, .inl (k 0, 4, .inl fw))] := hD
  generalize H1 = H at hP hS ⊢
  have hw_2 : (r_1.toInt = 1 ∧ 0 ≤ p0.toInt ∧ p0.toInt < 4) ∨ (r_1.toInt = 0 ∧ (p0.toInt < 0 ∨ 4 ≤ p0.toInt)) := hw
  clear hw
  refine lv_if_eq (tgt := 22) hx hb dX11_row_4 (by decide) (fun h_3 => ?_) (fun h_3 => ?_)
  · skip
    have zh_3 : r_1.toInt = 0 := z_eq h_3
    refine lv_bipush (v := (-2)) hx hb dX11_row_22 (by decide) ?_
    have hP9 := hP.sub (ws' := []) [] rfl
    have hD9 := hD.sub (ws' := []) [] (by decide) rfl
    exact W.iret (v := (-2)) hx hb hr (fun tZ ht hW => ⟨⟨(-2), (), rfl, (show (-2) = sp_row p0 p1 p2 from by unfold sp_row; first | (rw [if_neg (by omega)]) | (rw [if_pos (by omega), if_neg (by omega)]) | (rw [if_pos (by omega), if_pos (by omega)])), by rw [ht]; exact hP9, va_K.moved hW.alike hK, hD9⟩, hS.F ht⟩) hS.2.2 dX11_row_24
  · skip
    have zh_3 : ¬ r_1.toInt = 0 := z_ne h_3
    refine lv_iload_n hx hb dX11_row_7 rfl (lv_at hl 2 rfl) ?_
    refine lv_if_lt (tgt := 22) hx hb dX11_row_8 (by decide) (fun h_4 => ?_) (fun h_4 => ?_)
    · skip
      have zh_4 : p1.toInt < 0 := z_lt h_4
      refine lv_bipush (v := (-2)) hx hb dX11_row_22 (by decide) ?_
      have hP9 := hP.sub (ws' := []) [] rfl
      have hD9 := hD.sub (ws' := []) [] (by decide) rfl
      exact W.iret (v := (-2)) hx hb hr (fun tZ ht hW => ⟨⟨(-2), (), rfl, (show (-2) = sp_row p0 p1 p2 from by unfold sp_row; first | (rw [if_neg (by omega)]) | (rw [if_pos (by omega), if_neg (by omega)]) | (rw [if_pos (by omega), if_pos (by omega)])), by rw [ht]; exact hP9, va_K.moved hW.alike hK, hD9⟩, hS.F ht⟩) hS.2.2 dX11_row_24
    · skip
      have zh_4 : 0 ≤ p1.toInt := z_nlt h_4
      refine lv_iload_n hx hb dX11_row_11 rfl (lv_at hl 2 rfl) ?_
      refine lv_iconst (v := 3) hx hb dX11_row_12 (by decide) ?_
      refine lv_icmp_gt (tgt := 22) hx hb dX11_row_13 (by decide) (fun h_5 => ?_) (fun h_5 => ?_)
      · skip
        have zh_5 : 3 < p1.toInt := z_lt h_5
        refine lv_bipush (v := (-2)) hx hb dX11_row_22 (by decide) ?_
        have hP9 := hP.sub (ws' := []) [] rfl
        have hD9 := hD.sub (ws' := []) [] (by decide) rfl
        exact W.iret (v := (-2)) hx hb hr (fun tZ ht hW => ⟨⟨(-2), (), rfl, (show (-2) = sp_row p0 p1 p2 from by unfold sp_row; first | (rw [if_neg (by omega)]) | (rw [if_pos (by omega), if_neg (by omega)]) | (rw [if_pos (by omega), if_pos (by omega)])), by rw [ht]; exact hP9, va_K.moved hW.alike hK, hD9⟩, hS.F ht⟩) hS.2.2 dX11_row_24
      · skip
        have zh_5 : p1.toInt ≤ 3 := z_nlt h_5
        refine lv_iload_n hx hb dX11_row_16 rfl (lv_at hl 3 rfl) ?_
        refine lv_bipush (v := 60) hx hb dX11_row_17 (by decide) ?_
        refine lv_icmp_le (tgt := 25) hx hb dX11_row_19 (by decide) (fun h_6 => ?_) (fun h_6 => ?_)
        · skip
          have zh_6 : p2.toInt ≤ 60 := z_le h_6
          refine lv_iload_n hx hb dX11_row_25 rfl (lv_at hl 3 rfl) ?_
          refine lv_if_ge (tgt := 32) hx hb dX11_row_26 (by decide) (fun h_7 => ?_) (fun h_7 => ?_)
          · skip
            have zh_7 : 0 ≤ p2.toInt := z_le h_7
            refine lv_aload_n hx hb dX11_row_32 rfl (lv_at hl 0 rfl) ?_
            refine va_get (D := D) (ci := 11) (v := .ref g4) (C := RX11) (T := TX11) (N := 13) hx hb hts iT_X11 hown hK hP 0 rfl rfl 4 (by decide) (hts _ tw_2_174) (fun _ h9 => h9) rfl dX11_row_33 ?_
            refine lv_iload_n hx hb dX11_row_36 rfl (lv_at hl 1 rfl) ?_
            refine lv_iload_n hx hb dX11_row_37 rfl (lv_at hl 2 rfl) ?_
            refine lv_iload_n hx hb dX11_row_38 rfl (lv_at hl 3 rfl) ?_
            have hPc := hP.sub (ws' := [(g4, .inr (8, [.ref w0, .ref w1, .ref w2, .int 0])), (w0, .inl (k 2, 240, .inr (.inl fn))), (w1, .inl (k 0, 4, .inl fl)), (w2, .inl (k 0, 4, .inl fw))]) [1, 2, 3, 4] rfl
            have hDc := hD.sub (ws' := [(g4, .inr (8, [.ref w0, .ref w1, .ref w2, .int 0])), (w0, .inl (k 2, 240, .inr (.inl fn))), (w1, .inl (k 0, 4, .inl fl)), (w2, .inl (k 0, 4, .inl fw))]) [1, 2, 3, 4] (by decide) rfl
            have hFc := va_free (wc := [(g4, .inr (8, [.ref w0, .ref w1, .ref w2, .int 0])), (w0, .inl (k 2, 240, .inr (.inl fn))), (w1, .inl (k 0, 4, .inl fl)), (w2, .inl (k 0, 4, .inl fw))]) hD hS hA [1, 2, 3, 4] rfl
            refine va_callv (va_runV (C := RX8) (As := [.int p0, .int p1, .int p2]) (rest := []) ⟨hx, hb, hml, hown, hts⟩ (c_X8_make l D k g4 w0 w1 w2 fn fl fw p0 p1 p2 H.size) (cwV 3 hts (gV tw_6_16 tw_6_17 tw_6_18 tw_1_5 tw_6_19) rfl rfl rfl hdV_X8_make ⟨Nat.le_of_ble_eq_true rfl, Nat.le_of_ble_eq_true rfl⟩) (cz_V hK hPc hDc hN (ci := 8) (q0 := 0) rfl rfl [.int p0, .int p1, .int p2]) rfl rfl hl.1 rfl (lv_room (Nat.le_of_ble_eq_true rfl)) dX11_row_39 ⟨Nat.le_of_ble_eq_true rfl, Nat.le_of_ble_eq_true rfl⟩) hS (fun q _ h => hFc q h) hFc (fun uZ tZ H1 locs ht hvm hw hB hz1 hk1 hS => ?_)
            obtain ⟨hP1, hK1, hD1⟩ := hB
            rw [ht] at hP1
            obtain ⟨hP, hD⟩ := va_join (wr := [(g, .inr (11, [.ref g0, .ref g1, .ref g2, .int 0, .ref g4, .ref g5, .ref g6, .ref g7, .ref g8, .ref g9, .ref g10, .ref g11, .ref g12]))]) (w1 := []) hP hD [1, 2, 3, 4] [0] rfl rfl (by decide) (by decide) hk1 hFc hP1 hD1
            clear hK1 hP1 hD1 hPc hDc hFc
            clear hk1 hz1 ht hvm
            have hP : va_P D vwCl [(g, .inr (11, [.ref g0, .ref g1, .ref g2, .int 0, .ref g4, .ref g5, .ref g6, .ref g7, .ref g8, .ref g9, .ref g10, .ref g11, .ref g12]))] H1 := hP
            have hD : va_D A [(g, .inr (11, [.ref g0, .ref g1, .ref g2, .int 0, .ref g4, .ref g5, .ref g6, .ref g7, .ref g8, .ref g9, .ref g10, .ref g11, .ref g12]))] := hD
            generalize H1 = H at hP hS ⊢
            clear hw
            refine lv_iconst (v := 0) hx hb dX11_row_42 (by decide) ?_
            have hP9 := hP.sub (ws' := []) [] rfl
            have hD9 := hD.sub (ws' := []) [] (by decide) rfl
            exact W.iret (v := 0) hx hb hr (fun tZ ht hW => ⟨⟨0, (), rfl, (show 0 = sp_row p0 p1 p2 from by unfold sp_row; first | (rw [if_neg (by omega)]) | (rw [if_pos (by omega), if_neg (by omega)]) | (rw [if_pos (by omega), if_pos (by omega)])), by rw [ht]; exact hP9, va_K.moved hW.alike hK, hD9⟩, hS.F ht⟩) hS.2.2 dX11_row_43
          · skip
            have zh_7 : p2.toInt < 0 := z_nle h_7
            refine lv_bipush (v := (-3)) hx hb dX11_row_29 (by decide) ?_
            have hP9 := hP.sub (ws' := []) [] rfl
            have hD9 := hD.sub (ws' := []) [] (by decide) rfl
            exact W.iret (v := (-3)) hx hb hr (fun tZ ht hW => ⟨⟨(-3), (), rfl, (show (-3) = sp_row p0 p1 p2 from by unfold sp_row; first | (rw [if_neg (by omega)]) | (rw [if_pos (by omega), if_neg (by omega)]) | (rw [if_pos (by omega), if_pos (by omega)])), by rw [ht]; exact hP9, va_K.moved hW.alike hK, hD9⟩, hS.F ht⟩) hS.2.2 dX11_row_31
        · skip
          have zh_6 : 60 < p2.toInt := z_nle h_6
          refine lv_bipush (v := (-2)) hx hb dX11_row_22 (by decide) ?_
          have hP9 := hP.sub (ws' := []) [] rfl
          have hD9 := hD.sub (ws' := []) [] (by decide) rfl
          exact W.iret (v := (-2)) hx hb hr (fun tZ ht hW => ⟨⟨(-2), (), rfl, (show (-2) = sp_row p0 p1 p2 from by unfold sp_row; first | (rw [if_neg (by omega)]) | (rw [if_pos (by omega), if_neg (by omega)]) | (rw [if_pos (by omega), if_pos (by omega)])), by rw [ht]; exact hP9, va_K.moved hW.alike hK, hD9⟩, hS.F ht⟩) hS.2.2 dX11_row_24
set_option maxHeartbeats 4000000 in
set_option maxRecDepth 100000 in
theorem c_X11_write (l : Launch) (D : va_G) (k : Nat → ClassId) (g : Nat) (g0 : Nat) (g1 : Nat) (g2 : Nat) (g4 : Nat) (g5 : Nat) (g6 : Nat) (g7 : Nat) (g8 : Nat) (g9 : Nat) (g10 : Nat) (g11 : Nat) (g12 : Nat) (w0 : Nat) (w1 : Nat) (w2 : Nat) (p0 : Int32) (p1 : Int32) (p2 : Int64) (sz : Nat) : Met l yX11_write (ww yX11_write cX11_write 5 (some .int)) ({ frames := 1, cells := 0, slots := 0, locals := 21 }) (Pre0 D k [(g, .inr (11, [.ref g0, .ref g1, .ref g2, .int 0, .ref g4, .ref g5, .ref g6, .ref g7, .ref g8, .ref g9, .ref g10, .ref g11, .ref g12])), (g4, .inr (8, [.ref w0, .ref w1, .ref w2, .int 0]))] sz [.ref g, .int p0, .int p1, .long p2]) (va_Qi (fun (r : Int32) (_ : Unit) => r = sp_write p0) (fun (_ : Unit) tZ => Bw D k (va_A [(g, .inr (11, [.ref g0, .ref g1, .ref g2, .int 0, .ref g4, .ref g5, .ref g6, .ref g7, .ref g8, .ref g9, .ref g10, .ref g11, .ref g12])), (g4, .inr (8, [.ref w0, .ref w1, .ref w2, .int 0]))] sz) [(g, .inr (11, [.ref g0, .ref g1, .ref g2, .int 0, .ref g4, .ref g5, .ref g6, .ref g7, .ref g8, .ref g9, .ref g10, .ref g11, .ref g12])), (g4, .inr (8, [.ref w0, .ref w1, .ref w2, .int 0]))] tZ) (va_A [(g, .inr (11, [.ref g0, .ref g1, .ref g2, .int 0, .ref g4, .ref g5, .ref g6, .ref g7, .ref g8, .ref g9, .ref g10, .ref g11, .ref g12])), (g4, .inr (8, [.ref w0, .ref w1, .ref w2, .int 0]))] sz)) 0 0 (va_A [(g, .inr (11, [.ref g0, .ref g1, .ref g2, .int 0, .ref g4, .ref g5, .ref g6, .ref g7, .ref g8, .ref g9, .ref g10, .ref g11, .ref g12])), (g4, .inr (8, [.ref w0, .ref w1, .ref w2, .int 0]))] sz) := by
  refine Met.ofW (cc := cX11_write) (maxL := 5) (ret := (some .int)) (by decide +kernel) rfl ?_
  intro p e s m args below meth c s₁ B hml hv
  obtain ⟨rfl, hsz, hP, hK, hD0, hN⟩ := hv
  have hx := B.exec
  have hb := B.bytes
  have hr := B.returns
  have hts : ∀ w ∈ TT, w.before _ s = true := fun w h => atoms_spec (ws := ww yX11_write cX11_write 5 (some .int)) B.pre w (List.mem_cons_of_mem _ h)
  have hown : s.vm.findClass RX11 = some m.cls := findClass_of_methodNamed B.named
  have hlocks := B.notSynchronized
  subst hsz
  have hD := hD0.self (sz := s.heap.size)
  generalize hAe : va_A [(g, .inr (11, [.ref g0, .ref g1, .ref g2, .int 0, .ref g4, .ref g5, .ref g6, .ref g7, .ref g8, .ref g9, .ref g10, .ref g11, .ref g12])), (g4, .inr (8, [.ref w0, .ref w1, .ref w2, .int 0]))] s.heap.size = A at hD ⊢
  have hA : ∀ q : Nat, s.heap.size ≤ q → A q := fun q h => by rw [← hAe]; exact Or.inr h
  have hS : va_S A s.heap s.heap [] := va_S.rf
  have hl := lv_entry ([.ref g, .int p0, .int p1, .long p2]) (n := 5) (Nat.le_of_ble_eq_true rfl)
  rw [lg_entry_eq]
  generalize (lg_sl ([.ref g, .int p0, .int p1, .long p2]) ++ List.replicate (5 - (lg_sl ([.ref g, .int p0, .int p1, .long p2])).length) Slot.unset).toArray = ls at hl ⊢
  have hl : lv_has ls 5 [(0, .ref g), (1, .int p0), (2, .int p1), (3, .long p2)] := hl
  refine lv_iload_n hx hb dX11_write_0 rfl (lv_at hl 1 rfl) ?_
  have hPc := hP.sub (ws' := []) [] rfl
  have hDc := hD.sub (ws' := []) [] (by decide) rfl
  have hFc := va_free (wc := []) hD hS hA [] rfl
  refine va_calli (va_runS (As := [.int p0]) (rest := []) ⟨hx, hb, hml, hown, hts⟩ (c_X8_isSlot l D k p0 s.heap.size) (va_cwS 1 hts (gS tw_4_213 tw_4_214 tw_1_5 tw_4_215) rfl rfl rfl hdS_X8_isSlot ⟨Nat.le_of_ble_eq_true rfl, Nat.le_of_ble_eq_true rfl⟩) (cz_S hK hPc hDc hN [.int p0]) rfl rfl hl.1 rfl (lv_room (Nat.le_of_ble_eq_true rfl)) dX11_write_1 ⟨Nat.le_of_ble_eq_true rfl, Nat.le_of_ble_eq_true rfl⟩) hS (fun q _ h => hFc q h) hFc (fun r_1 uZ tZ H1 locs ht hvm hw hB hz1 hk1 hS => ?_)
  obtain ⟨hP1, hK1, hD1⟩ := hB
  rw [ht] at hP1
  obtain ⟨hP, hD⟩ := va_join (wr := [(g, .inr (11, [.ref g0, .ref g1, .ref g2, .int 0, .ref g4, .ref g5, .ref g6, .ref g7, .ref g8, .ref g9, .ref g10, .ref g11, .ref g12])), (g4, .inr (8, [.ref w0, .ref w1, .ref w2, .int 0]))]) (w1 := []) hP hD [] [0, 1] rfl rfl (by decide) (by decide) hk1 hFc hP1 hD1
  clear hK1 hP1 hD1 hPc hDc hFc
  clear hk1 hz1 ht hvm
  have hP : va_P D vwCl [(g, .inr (11, [.ref g0, .ref g1, .ref g2, .int 0, .ref g4, .ref g5, .ref g6, .ref g7, .ref g8, .ref g9, .ref g10, .ref g11, .ref g12])), (g4, .inr (8, [.ref w0, .ref w1, .ref w2, .int 0]))] H1 := hP
  have hD : va_D A [(g, .inr (11, [.ref g0, .ref g1, .ref g2, .int 0, .ref g4, .ref g5, .ref g6, .ref g7, .ref g8, .ref g9, .ref g10, .ref g11, .ref g12])), (g4, .inr (8, [.ref w0, .ref w1, .ref w2, .int 0]))] := hD
  generalize H1 = H at hP hS ⊢
  have hw_2 : (r_1.toInt = 1 ∧ 0 ≤ p0.toInt ∧ p0.toInt < 4) ∨ (r_1.toInt = 0 ∧ (p0.toInt < 0 ∨ 4 ≤ p0.toInt)) := hw
  clear hw
  refine lv_if_ne (tgt := 10) hx hb dX11_write_4 (by decide) (fun h_3 => ?_) (fun h_3 => ?_)
  · skip
    have zh_3 : ¬ r_1.toInt = 0 := z_ne h_3
    refine lv_aload_n hx hb dX11_write_10 rfl (lv_at hl 0 rfl) ?_
    refine va_get (D := D) (ci := 11) (v := .ref g4) (C := RX11) (T := TX11) (N := 13) hx hb hts iT_X11 hown hK hP 0 rfl rfl 4 (by decide) (hts _ tw_2_174) (fun _ h9 => h9) rfl dX11_write_11 ?_
    refine lv_iload_n hx hb dX11_write_14 rfl (lv_at hl 1 rfl) ?_
    have hPc := hP.sub (ws' := [(g4, .inr (8, [.ref w0, .ref w1, .ref w2, .int 0]))]) [1] rfl
    have hDc := hD.sub (ws' := [(g4, .inr (8, [.ref w0, .ref w1, .ref w2, .int 0]))]) [1] (by decide) rfl
    have hFc := va_free (wc := [(g4, .inr (8, [.ref w0, .ref w1, .ref w2, .int 0]))]) hD hS hA [1] rfl
    refine va_calli (va_runV (C := RX8) (As := [.int p0]) (rest := []) ⟨hx, hb, hml, hown, hts⟩ (c_X8_stands l D k g4 w0 w1 w2 p0 H.size) (cwV 1 hts (gV tw_4_216 tw_4_217 tw_4_218 tw_1_5 tw_4_219) rfl rfl rfl hdV_X8_stands ⟨Nat.le_of_ble_eq_true rfl, Nat.le_of_ble_eq_true rfl⟩) (cz_V hK hPc hDc hN (ci := 8) (q0 := 0) rfl rfl [.int p0]) rfl rfl hl.1 rfl (lv_room (Nat.le_of_ble_eq_true rfl)) dX11_write_15 ⟨Nat.le_of_ble_eq_true rfl, Nat.le_of_ble_eq_true rfl⟩) hS (fun q _ h => hFc q h) hFc (fun r_4 uZ tZ H1 locs ht hvm hw hB hz1 hk1 hS => ?_)
    obtain ⟨hP1, hK1, hD1⟩ := hB
    rw [ht] at hP1
    obtain ⟨hP, hD⟩ := va_join (wr := [(g, .inr (11, [.ref g0, .ref g1, .ref g2, .int 0, .ref g4, .ref g5, .ref g6, .ref g7, .ref g8, .ref g9, .ref g10, .ref g11, .ref g12]))]) (w1 := [(g4, .inr (8, [.ref w0, .ref w1, .ref w2, .int 0]))]) hP hD [1] [0] rfl rfl (by decide) (by decide) hk1 hFc hP1 hD1
    clear hK1 hP1 hD1 hPc hDc hFc
    clear hk1 hz1 ht hvm
    have hP : va_P D vwCl [(g, .inr (11, [.ref g0, .ref g1, .ref g2, .int 0, .ref g4, .ref g5, .ref g6, .ref g7, .ref g8, .ref g9, .ref g10, .ref g11, .ref g12])), (g4, .inr (8, [.ref w0, .ref w1, .ref w2, .int 0]))] H1 := hP
    have hD : va_D A [(g, .inr (11, [.ref g0, .ref g1, .ref g2, .int 0, .ref g4, .ref g5, .ref g6, .ref g7, .ref g8, .ref g9, .ref g10, .ref g11, .ref g12])), (g4, .inr (8, [.ref w0, .ref w1, .ref w2, .int 0]))] := hD
    generalize H1 = H at hP hS ⊢
    obtain rfl : r_4 = 0 := hw
    refine lv_if_ne (tgt := 24) hx hb dX11_write_18 (by decide) (fun c9 => absurd c9 (by decide)) (fun _ => ?_)
    refine lv_bipush (v := (-6)) hx hb dX11_write_21 (by decide) ?_
    have hP9 := hP.sub (ws' := [(g, .inr (11, [.ref g0, .ref g1, .ref g2, .int 0, .ref g4, .ref g5, .ref g6, .ref g7, .ref g8, .ref g9, .ref g10, .ref g11, .ref g12])), (g4, .inr (8, [.ref w0, .ref w1, .ref w2, .int 0]))]) [0, 1] rfl
    have hD9 := hD.sub (ws' := [(g, .inr (11, [.ref g0, .ref g1, .ref g2, .int 0, .ref g4, .ref g5, .ref g6, .ref g7, .ref g8, .ref g9, .ref g10, .ref g11, .ref g12])), (g4, .inr (8, [.ref w0, .ref w1, .ref w2, .int 0]))]) [0, 1] (by decide) rfl
    exact W.iret (v := (-6)) hx hb hr (fun tZ ht hW => ⟨⟨(-6), (), rfl, (show (-6) = sp_write p0 from by unfold sp_write; first | (rw [if_neg (by omega)]) | (rw [if_pos (by omega)])), by rw [ht]; exact hP9, va_K.moved hW.alike hK, hD9⟩, hS.F ht⟩) hS.2.2 dX11_write_23
  · skip
    have zh_3 : r_1.toInt = 0 := z_eq h_3
    refine lv_bipush (v := (-2)) hx hb dX11_write_7 (by decide) ?_
    have hP9 := hP.sub (ws' := [(g, .inr (11, [.ref g0, .ref g1, .ref g2, .int 0, .ref g4, .ref g5, .ref g6, .ref g7, .ref g8, .ref g9, .ref g10, .ref g11, .ref g12])), (g4, .inr (8, [.ref w0, .ref w1, .ref w2, .int 0]))]) [0, 1] rfl
    have hD9 := hD.sub (ws' := [(g, .inr (11, [.ref g0, .ref g1, .ref g2, .int 0, .ref g4, .ref g5, .ref g6, .ref g7, .ref g8, .ref g9, .ref g10, .ref g11, .ref g12])), (g4, .inr (8, [.ref w0, .ref w1, .ref w2, .int 0]))]) [0, 1] (by decide) rfl
    exact W.iret (v := (-2)) hx hb hr (fun tZ ht hW => ⟨⟨(-2), (), rfl, (show (-2) = sp_write p0 from by unfold sp_write; first | (rw [if_neg (by omega)]) | (rw [if_pos (by omega)])), by rw [ht]; exact hP9, va_K.moved hW.alike hK, hD9⟩, hS.F ht⟩) hS.2.2 dX11_write_9
set_option maxHeartbeats 4000000 in
set_option maxRecDepth 100000 in
theorem c_X11_paste (l : Launch) (D : va_G) (k : Nat → ClassId) (g : Nat) (g0 : Nat) (g1 : Nat) (g2 : Nat) (g4 : Nat) (g5 : Nat) (g6 : Nat) (g7 : Nat) (g8 : Nat) (g9 : Nat) (g10 : Nat) (g11 : Nat) (g12 : Nat) (w0 : Nat) (w1 : Nat) (w2 : Nat) (p0 : Int32) (p1 : Int32) (p2 : Int32) (p3 : Int32) (p4 : Int32) (sz : Nat) : Met l yX11_paste (ww yX11_paste cX11_paste 6 (some .int)) ({ frames := 1, cells := 0, slots := 0, locals := 21 }) (Pre0 D k [(g, .inr (11, [.ref g0, .ref g1, .ref g2, .int 0, .ref g4, .ref g5, .ref g6, .ref g7, .ref g8, .ref g9, .ref g10, .ref g11, .ref g12])), (g4, .inr (8, [.ref w0, .ref w1, .ref w2, .int 0]))] sz [.ref g, .int p0, .int p1, .int p2, .int p3, .int p4]) (va_Qi (fun (r : Int32) (_ : Unit) => r = sp_paste p0 p2) (fun (_ : Unit) tZ => Bw D k (va_A [(g, .inr (11, [.ref g0, .ref g1, .ref g2, .int 0, .ref g4, .ref g5, .ref g6, .ref g7, .ref g8, .ref g9, .ref g10, .ref g11, .ref g12])), (g4, .inr (8, [.ref w0, .ref w1, .ref w2, .int 0]))] sz) [(g, .inr (11, [.ref g0, .ref g1, .ref g2, .int 0, .ref g4, .ref g5, .ref g6, .ref g7, .ref g8, .ref g9, .ref g10, .ref g11, .ref g12])), (g4, .inr (8, [.ref w0, .ref w1, .ref w2, .int 0]))] tZ) (va_A [(g, .inr (11, [.ref g0, .ref g1, .ref g2, .int 0, .ref g4, .ref g5, .ref g6, .ref g7, .ref g8, .ref g9, .ref g10, .ref g11, .ref g12])), (g4, .inr (8, [.ref w0, .ref w1, .ref w2, .int 0]))] sz)) 0 0 (va_A [(g, .inr (11, [.ref g0, .ref g1, .ref g2, .int 0, .ref g4, .ref g5, .ref g6, .ref g7, .ref g8, .ref g9, .ref g10, .ref g11, .ref g12])), (g4, .inr (8, [.ref w0, .ref w1, .ref w2, .int 0]))] sz) := by
  refine Met.ofW (cc := cX11_paste) (maxL := 6) (ret := (some .int)) (by decide +kernel) rfl ?_
  intro p e s m args below meth c s₁ B hml hv
  obtain ⟨rfl, hsz, hP, hK, hD0, hN⟩ := hv
  have hx := B.exec
  have hb := B.bytes
  have hr := B.returns
  have hts : ∀ w ∈ TT, w.before _ s = true := fun w h => atoms_spec (ws := ww yX11_paste cX11_paste 6 (some .int)) B.pre w (List.mem_cons_of_mem _ h)
  have hown : s.vm.findClass RX11 = some m.cls := findClass_of_methodNamed B.named
  have hlocks := B.notSynchronized
  subst hsz
  have hD := hD0.self (sz := s.heap.size)
  generalize hAe : va_A [(g, .inr (11, [.ref g0, .ref g1, .ref g2, .int 0, .ref g4, .ref g5, .ref g6, .ref g7, .ref g8, .ref g9, .ref g10, .ref g11, .ref g12])), (g4, .inr (8, [.ref w0, .ref w1, .ref w2, .int 0]))] s.heap.size = A at hD ⊢
  have hA : ∀ q : Nat, s.heap.size ≤ q → A q := fun q h => by rw [← hAe]; exact Or.inr h
  have hS : va_S A s.heap s.heap [] := va_S.rf
  have hl := lv_entry ([.ref g, .int p0, .int p1, .int p2, .int p3, .int p4]) (n := 6) (Nat.le_of_ble_eq_true rfl)
  rw [lg_entry_eq]
  generalize (lg_sl ([.ref g, .int p0, .int p1, .int p2, .int p3, .int p4]) ++ List.replicate (6 - (lg_sl ([.ref g, .int p0, .int p1, .int p2, .int p3, .int p4])).length) Slot.unset).toArray = ls at hl ⊢
  have hl : lv_has ls 6 [(0, .ref g), (1, .int p0), (2, .int p1), (3, .int p2), (4, .int p3), (5, .int p4)] := hl
  refine lv_iload_n hx hb dX11_paste_0 rfl (lv_at hl 1 rfl) ?_
  have hPc := hP.sub (ws' := []) [] rfl
  have hDc := hD.sub (ws' := []) [] (by decide) rfl
  have hFc := va_free (wc := []) hD hS hA [] rfl
  refine va_calli (va_runS (As := [.int p0]) (rest := []) ⟨hx, hb, hml, hown, hts⟩ (c_X8_isSlot l D k p0 s.heap.size) (va_cwS 1 hts (gS tw_4_213 tw_4_214 tw_1_5 tw_4_215) rfl rfl rfl hdS_X8_isSlot ⟨Nat.le_of_ble_eq_true rfl, Nat.le_of_ble_eq_true rfl⟩) (cz_S hK hPc hDc hN [.int p0]) rfl rfl hl.1 rfl (lv_room (Nat.le_of_ble_eq_true rfl)) dX11_paste_1 ⟨Nat.le_of_ble_eq_true rfl, Nat.le_of_ble_eq_true rfl⟩) hS (fun q _ h => hFc q h) hFc (fun r_1 uZ tZ H1 locs ht hvm hw hB hz1 hk1 hS => ?_)
  obtain ⟨hP1, hK1, hD1⟩ := hB
  rw [ht] at hP1
  obtain ⟨hP, hD⟩ := va_join (wr := [(g, .inr (11, [.ref g0, .ref g1, .ref g2, .int 0, .ref g4, .ref g5, .ref g6, .ref g7, .ref g8, .ref g9, .ref g10, .ref g11, .ref g12])), (g4, .inr (8, [.ref w0, .ref w1, .ref w2, .int 0]))]) (w1 := []) hP hD [] [0, 1] rfl rfl (by decide) (by decide) hk1 hFc hP1 hD1
  clear hK1 hP1 hD1 hPc hDc hFc
  clear hk1 hz1 ht hvm
  have hP : va_P D vwCl [(g, .inr (11, [.ref g0, .ref g1, .ref g2, .int 0, .ref g4, .ref g5, .ref g6, .ref g7, .ref g8, .ref g9, .ref g10, .ref g11, .ref g12])), (g4, .inr (8, [.ref w0, .ref w1, .ref w2, .int 0]))] H1 := hP
  have hD : va_D A [(g, .inr (11, [.ref g0, .ref g1, .ref g2, .int 0, .ref g4, .ref g5, .ref g6, .ref g7, .ref g8, .ref g9, .ref g10, .ref g11, .ref g12])), (g4, .inr (8, [.ref w0, .ref w1, .ref w2, .int 0]))] := hD
  generalize H1 = H at hP hS ⊢
  have hw_2 : (r_1.toInt = 1 ∧ 0 ≤ p0.toInt ∧ p0.toInt < 4) ∨ (r_1.toInt = 0 ∧ (p0.toInt < 0 ∨ 4 ≤ p0.toInt)) := hw
  clear hw
  refine lv_if_eq (tgt := 14) hx hb dX11_paste_4 (by decide) (fun h_3 => ?_) (fun h_3 => ?_)
  · skip
    have zh_3 : r_1.toInt = 0 := z_eq h_3
    refine lv_bipush (v := (-2)) hx hb dX11_paste_14 (by decide) ?_
    have hP9 := hP.sub (ws' := [(g, .inr (11, [.ref g0, .ref g1, .ref g2, .int 0, .ref g4, .ref g5, .ref g6, .ref g7, .ref g8, .ref g9, .ref g10, .ref g11, .ref g12])), (g4, .inr (8, [.ref w0, .ref w1, .ref w2, .int 0]))]) [0, 1] rfl
    have hD9 := hD.sub (ws' := [(g, .inr (11, [.ref g0, .ref g1, .ref g2, .int 0, .ref g4, .ref g5, .ref g6, .ref g7, .ref g8, .ref g9, .ref g10, .ref g11, .ref g12])), (g4, .inr (8, [.ref w0, .ref w1, .ref w2, .int 0]))]) [0, 1] (by decide) rfl
    exact W.iret (v := (-2)) hx hb hr (fun tZ ht hW => ⟨⟨(-2), (), rfl, (show (-2) = sp_paste p0 p2 from by unfold sp_paste; first | (rw [if_neg (by omega)]) | (rw [if_pos (by omega)])), by rw [ht]; exact hP9, va_K.moved hW.alike hK, hD9⟩, hS.F ht⟩) hS.2.2 dX11_paste_16
  · skip
    have zh_3 : ¬ r_1.toInt = 0 := z_ne h_3
    refine lv_iload_n hx hb dX11_paste_7 rfl (lv_at hl 3 rfl) ?_
    have hPc := hP.sub (ws' := []) [] rfl
    have hDc := hD.sub (ws' := []) [] (by decide) rfl
    have hFc := va_free (wc := []) hD hS hA [] rfl
    refine va_calli (va_runS (As := [.int p2]) (rest := []) ⟨hx, hb, hml, hown, hts⟩ (c_X8_isSlot l D k p2 H.size) (va_cwS 1 hts (gS tw_4_213 tw_4_214 tw_1_5 tw_4_215) rfl rfl rfl hdS_X8_isSlot ⟨Nat.le_of_ble_eq_true rfl, Nat.le_of_ble_eq_true rfl⟩) (cz_S hK hPc hDc hN [.int p2]) rfl rfl hl.1 rfl (lv_room (Nat.le_of_ble_eq_true rfl)) dX11_paste_8 ⟨Nat.le_of_ble_eq_true rfl, Nat.le_of_ble_eq_true rfl⟩) hS (fun q _ h => hFc q h) hFc (fun r_4 uZ tZ H1 locs ht hvm hw hB hz1 hk1 hS => ?_)
    obtain ⟨hP1, hK1, hD1⟩ := hB
    rw [ht] at hP1
    obtain ⟨hP, hD⟩ := va_join (wr := [(g, .inr (11, [.ref g0, .ref g1, .ref g2, .int 0, .ref g4, .ref g5, .ref g6, .ref g7, .ref g8, .ref g9, .ref g10, .ref g11, .ref g12])), (g4, .inr (8, [.ref w0, .ref w1, .ref w2, .int 0]))]) (w1 := []) hP hD [] [0, 1] rfl rfl (by decide) (by decide) hk1 hFc hP1 hD1
    clear hK1 hP1 hD1 hPc hDc hFc
    clear hk1 hz1 ht hvm
    have hP : va_P D vwCl [(g, .inr (11, [.ref g0, .ref g1, .ref g2, .int 0, .ref g4, .ref g5, .ref g6, .ref g7, .ref g8, .ref g9, .ref g10, .ref g11, .ref g12])), (g4, .inr (8, [.ref w0, .ref w1, .ref w2, .int 0]))] H1 := hP
    have hD : va_D A [(g, .inr (11, [.ref g0, .ref g1, .ref g2, .int 0, .ref g4, .ref g5, .ref g6, .ref g7, .ref g8, .ref g9, .ref g10, .ref g11, .ref g12])), (g4, .inr (8, [.ref w0, .ref w1, .ref w2, .int 0]))] := hD
    generalize H1 = H at hP hS ⊢
    have hw_5 : (r_4.toInt = 1 ∧ 0 ≤ p2.toInt ∧ p2.toInt < 4) ∨ (r_4.toInt = 0 ∧ (p2.toInt < 0 ∨ 4 ≤ p2.toInt)) := hw
    clear hw
    refine lv_if_ne (tgt := 17) hx hb dX11_paste_11 (by decide) (fun h_6 => ?_) (fun h_6 => ?_)
    · skip
      have zh_6 : ¬ r_4.toInt = 0 := z_ne h_6
      refine lv_aload_n hx hb dX11_paste_17 rfl (lv_at hl 0 rfl) ?_
      refine va_get (D := D) (ci := 11) (v := .ref g4) (C := RX11) (T := TX11) (N := 13) hx hb hts iT_X11 hown hK hP 0 rfl rfl 4 (by decide) (hts _ tw_2_174) (fun _ h9 => h9) rfl dX11_paste_18 ?_
      refine lv_iload_n hx hb dX11_paste_21 rfl (lv_at hl 1 rfl) ?_
      have hPc := hP.sub (ws' := [(g4, .inr (8, [.ref w0, .ref w1, .ref w2, .int 0]))]) [1] rfl
      have hDc := hD.sub (ws' := [(g4, .inr (8, [.ref w0, .ref w1, .ref w2, .int 0]))]) [1] (by decide) rfl
      have hFc := va_free (wc := [(g4, .inr (8, [.ref w0, .ref w1, .ref w2, .int 0]))]) hD hS hA [1] rfl
      refine va_calli (va_runV (C := RX8) (As := [.int p0]) (rest := []) ⟨hx, hb, hml, hown, hts⟩ (c_X8_stands l D k g4 w0 w1 w2 p0 H.size) (cwV 1 hts (gV tw_4_216 tw_4_217 tw_4_218 tw_1_5 tw_4_219) rfl rfl rfl hdV_X8_stands ⟨Nat.le_of_ble_eq_true rfl, Nat.le_of_ble_eq_true rfl⟩) (cz_V hK hPc hDc hN (ci := 8) (q0 := 0) rfl rfl [.int p0]) rfl rfl hl.1 rfl (lv_room (Nat.le_of_ble_eq_true rfl)) dX11_paste_22 ⟨Nat.le_of_ble_eq_true rfl, Nat.le_of_ble_eq_true rfl⟩) hS (fun q _ h => hFc q h) hFc (fun r_7 uZ tZ H1 locs ht hvm hw hB hz1 hk1 hS => ?_)
      obtain ⟨hP1, hK1, hD1⟩ := hB
      rw [ht] at hP1
      obtain ⟨hP, hD⟩ := va_join (wr := [(g, .inr (11, [.ref g0, .ref g1, .ref g2, .int 0, .ref g4, .ref g5, .ref g6, .ref g7, .ref g8, .ref g9, .ref g10, .ref g11, .ref g12]))]) (w1 := [(g4, .inr (8, [.ref w0, .ref w1, .ref w2, .int 0]))]) hP hD [1] [0] rfl rfl (by decide) (by decide) hk1 hFc hP1 hD1
      clear hK1 hP1 hD1 hPc hDc hFc
      clear hk1 hz1 ht hvm
      have hP : va_P D vwCl [(g, .inr (11, [.ref g0, .ref g1, .ref g2, .int 0, .ref g4, .ref g5, .ref g6, .ref g7, .ref g8, .ref g9, .ref g10, .ref g11, .ref g12])), (g4, .inr (8, [.ref w0, .ref w1, .ref w2, .int 0]))] H1 := hP
      have hD : va_D A [(g, .inr (11, [.ref g0, .ref g1, .ref g2, .int 0, .ref g4, .ref g5, .ref g6, .ref g7, .ref g8, .ref g9, .ref g10, .ref g11, .ref g12])), (g4, .inr (8, [.ref w0, .ref w1, .ref w2, .int 0]))] := hD
      generalize H1 = H at hP hS ⊢
      obtain rfl : r_7 = 0 := hw
      refine lv_if_eq (tgt := 39) hx hb dX11_paste_25 (by decide) (fun _ => ?_) (fun c9 => absurd c9 (by decide))
      refine lv_bipush (v := (-6)) hx hb dX11_paste_39 (by decide) ?_
      have hP9 := hP.sub (ws' := [(g, .inr (11, [.ref g0, .ref g1, .ref g2, .int 0, .ref g4, .ref g5, .ref g6, .ref g7, .ref g8, .ref g9, .ref g10, .ref g11, .ref g12])), (g4, .inr (8, [.ref w0, .ref w1, .ref w2, .int 0]))]) [0, 1] rfl
      have hD9 := hD.sub (ws' := [(g, .inr (11, [.ref g0, .ref g1, .ref g2, .int 0, .ref g4, .ref g5, .ref g6, .ref g7, .ref g8, .ref g9, .ref g10, .ref g11, .ref g12])), (g4, .inr (8, [.ref w0, .ref w1, .ref w2, .int 0]))]) [0, 1] (by decide) rfl
      exact W.iret (v := (-6)) hx hb hr (fun tZ ht hW => ⟨⟨(-6), (), rfl, (show (-6) = sp_paste p0 p2 from by unfold sp_paste; first | (rw [if_neg (by omega)]) | (rw [if_pos (by omega)])), by rw [ht]; exact hP9, va_K.moved hW.alike hK, hD9⟩, hS.F ht⟩) hS.2.2 dX11_paste_41
    · skip
      have zh_6 : r_4.toInt = 0 := z_eq h_6
      refine lv_bipush (v := (-2)) hx hb dX11_paste_14 (by decide) ?_
      have hP9 := hP.sub (ws' := [(g, .inr (11, [.ref g0, .ref g1, .ref g2, .int 0, .ref g4, .ref g5, .ref g6, .ref g7, .ref g8, .ref g9, .ref g10, .ref g11, .ref g12])), (g4, .inr (8, [.ref w0, .ref w1, .ref w2, .int 0]))]) [0, 1] rfl
      have hD9 := hD.sub (ws' := [(g, .inr (11, [.ref g0, .ref g1, .ref g2, .int 0, .ref g4, .ref g5, .ref g6, .ref g7, .ref g8, .ref g9, .ref g10, .ref g11, .ref g12])), (g4, .inr (8, [.ref w0, .ref w1, .ref w2, .int 0]))]) [0, 1] (by decide) rfl
      exact W.iret (v := (-2)) hx hb hr (fun tZ ht hW => ⟨⟨(-2), (), rfl, (show (-2) = sp_paste p0 p2 from by unfold sp_paste; first | (rw [if_neg (by omega)]) | (rw [if_pos (by omega)])), by rw [ht]; exact hP9, va_K.moved hW.alike hK, hD9⟩, hS.F ht⟩) hS.2.2 dX11_paste_16
