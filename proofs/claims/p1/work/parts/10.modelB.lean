set_option maxHeartbeats 4000000 in
set_option maxRecDepth 100000 in
theorem c_X12_four_0 (l : Launch) (D : va_G) (k : Nat → ClassId) (mo : Nat) (m1 : Nat) (m2 : Nat) (m3 : Nat) (m4 : Nat) (m5 : Nat) (m16 : Nat) (m17 : Nat) (m18 : Nat) (m19 : Nat) (m20 : Nat) (m21 : Nat) (m22 : Nat) (m23 : Nat) (m25 : Nat) (m26 : Nat) (m27 : Nat) (m28 : Nat) (m29 : Nat) (m31 : Nat) (m32 : Nat) (m33 : Nat) (m37 : Nat) (m38 : Nat) (m39 : Nat) (m40 : Nat) (fb : Nat → Int32) (p0 : Int32) (sz : Nat) : Met l yX12_four (ww yX12_four cX12_four 3 none) ({ frames := 0, cells := 0, slots := 0, locals := 0 }) (Pre0 D k [(mo, .inr (12, [.int 0, .ref m1, .ref m2, .ref m3, .ref m4, .ref m5, .int 0, .int 0, .int 0, .int 0, .int 0, .long 0, .int 0, .int 0, .int 0, .int (-1), .ref m16, .ref m17, .ref m18, .ref m19, .ref m20, .ref m21, .ref m22, .ref m23, .int 0, .ref m25, .ref m26, .ref m27, .ref m28, .ref m29, .int 0, .ref m31, .ref m32, .ref m33, .int 0, .int 0, .int 0, .ref m37, .ref m38, .ref m39, .ref m40, .long 0])), (m5, .inl (k 1, 1000, .inl fb))] sz [.ref mo, .int p0]) (va_Qv (fun (f2 : (Nat → Int32)) => True) (fun (f2 : (Nat → Int32)) tZ => Bw D k (va_A [(mo, .inr (12, [.int 0, .ref m1, .ref m2, .ref m3, .ref m4, .ref m5, .int 0, .int 0, .int 0, .int 0, .int 0, .long 0, .int 0, .int 0, .int 0, .int (-1), .ref m16, .ref m17, .ref m18, .ref m19, .ref m20, .ref m21, .ref m22, .ref m23, .int 0, .ref m25, .ref m26, .ref m27, .ref m28, .ref m29, .int 0, .ref m31, .ref m32, .ref m33, .int 0, .int 0, .int 0, .ref m37, .ref m38, .ref m39, .ref m40, .long 0])), (m5, .inl (k 1, 1000, .inl fb))] sz) [(mo, .inr (12, [.int 0, .ref m1, .ref m2, .ref m3, .ref m4, .ref m5, .int 4, .int 0, .int 0, .int 0, .int 0, .long 0, .int 0, .int 0, .int 0, .int (-1), .ref m16, .ref m17, .ref m18, .ref m19, .ref m20, .ref m21, .ref m22, .ref m23, .int 0, .ref m25, .ref m26, .ref m27, .ref m28, .ref m29, .int 0, .ref m31, .ref m32, .ref m33, .int 0, .int 0, .int 0, .ref m37, .ref m38, .ref m39, .ref m40, .long 0])), (m5, .inl (k 1, 1000, .inl f2))] tZ) (va_A [(mo, .inr (12, [.int 0, .ref m1, .ref m2, .ref m3, .ref m4, .ref m5, .int 0, .int 0, .int 0, .int 0, .int 0, .long 0, .int 0, .int 0, .int 0, .int (-1), .ref m16, .ref m17, .ref m18, .ref m19, .ref m20, .ref m21, .ref m22, .ref m23, .int 0, .ref m25, .ref m26, .ref m27, .ref m28, .ref m29, .int 0, .ref m31, .ref m32, .ref m33, .int 0, .int 0, .int 0, .ref m37, .ref m38, .ref m39, .ref m40, .long 0])), (m5, .inl (k 1, 1000, .inl fb))] sz)) 0 0 (va_A [(mo, .inr (12, [.int 0, .ref m1, .ref m2, .ref m3, .ref m4, .ref m5, .int 0, .int 0, .int 0, .int 0, .int 0, .long 0, .int 0, .int 0, .int 0, .int (-1), .ref m16, .ref m17, .ref m18, .ref m19, .ref m20, .ref m21, .ref m22, .ref m23, .int 0, .ref m25, .ref m26, .ref m27, .ref m28, .ref m29, .int 0, .ref m31, .ref m32, .ref m33, .int 0, .int 0, .int 0, .ref m37, .ref m38, .ref m39, .ref m40, .long 0])), (m5, .inl (k 1, 1000, .inl fb))] sz) := by
  refine Met.ofW (cc := cX12_four) (maxL := 3) (ret := none) (by decide +kernel) rfl ?_
  intro p e s m args below meth c s₁ B hml hv
  obtain ⟨rfl, hsz, hP, hK, hD0, hN⟩ := hv
  have hx := B.exec
  have hb := B.bytes
  have hr := B.returns
  have hts : ∀ w ∈ TT, w.before _ s = true := fun w h => atoms_spec (ws := ww yX12_four cX12_four 3 none) B.pre w (List.mem_cons_of_mem _ h)
  have hown : s.vm.findClass RX12 = some m.cls := findClass_of_methodNamed B.named
  have hlocks := B.notSynchronized
  subst hsz
  have hD := hD0.self (sz := s.heap.size)
  generalize hAe : va_A [(mo, .inr (12, [.int 0, .ref m1, .ref m2, .ref m3, .ref m4, .ref m5, .int 0, .int 0, .int 0, .int 0, .int 0, .long 0, .int 0, .int 0, .int 0, .int (-1), .ref m16, .ref m17, .ref m18, .ref m19, .ref m20, .ref m21, .ref m22, .ref m23, .int 0, .ref m25, .ref m26, .ref m27, .ref m28, .ref m29, .int 0, .ref m31, .ref m32, .ref m33, .int 0, .int 0, .int 0, .ref m37, .ref m38, .ref m39, .ref m40, .long 0])), (m5, .inl (k 1, 1000, .inl fb))] s.heap.size = A at hD ⊢
  have hA : ∀ q : Nat, s.heap.size ≤ q → A q := fun q h => by rw [← hAe]; exact Or.inr h
  have hS : va_S A s.heap s.heap [] := va_S.rf
  have hl := lv_entry ([.ref mo, .int p0]) (n := 3) (Nat.le_of_ble_eq_true rfl)
  rw [lg_entry_eq]
  generalize (lg_sl ([.ref mo, .int p0]) ++ List.replicate (3 - (lg_sl ([.ref mo, .int p0])).length) Slot.unset).toArray = ls at hl ⊢
  have hl : lv_has ls 3 [(0, .ref mo), (1, .int p0)] := hl
  refine lv_bipush (v := 24) hx hb dX12_four_0 (by decide) ?_
  refine lv_istore_n (lv' := [(2, .int 24), (0, .ref mo), (1, .int p0)]) hx hb dX12_four_2 rfl hl (by decide) rfl (fun ls hl => ?_)
  refine lv_iload_n hx hb dX12_four_3 rfl (lv_at hl 0 rfl) ?_
  refine lv_if_lt (tgt := 36) hx hb dX12_four_4 (by decide) (fun c9 => absurd c9 (by decide)) (fun _ => ?_)
  refine lv_aload_n hx hb dX12_four_7 rfl (lv_at hl 1 rfl) ?_
  refine va_get (D := D) (ci := 12) (v := .ref m5) (C := RX12) (T := TX12) (N := 42) hx hb hts iT_X12 hown hK hP 0 rfl rfl 5 (by decide) (hts _ tw_6_58) (fun _ h9 => h9) rfl dX12_four_8 ?_
  refine lv_aload_n hx hb dX12_four_11 rfl (lv_at hl 1 rfl) ?_
  refine va_get (D := D) (ci := 12) (v := .int 0) (C := RX12) (T := TX12) (N := 42) hx hb hts iT_X12 hown hK hP 0 rfl rfl 6 (by decide) (hts _ tw_6_59) (fun _ h9 => h9) rfl dX12_four_12 ?_
  refine lv_iload_n hx hb dX12_four_15 rfl (lv_at hl 2 rfl) ?_
  refine lv_iload_n hx hb dX12_four_16 rfl (lv_at hl 0 rfl) ?_
  refine lv_ishr hx hb dX12_four_17 ?_
  refine lv_topi (fun x_1 ex_1 => ?_)
  refine lv_i2b (v := x_1.toInt8.toInt32) hx hb dX12_four_18 rfl ?_
  refine va_bast hx hb hK hP hD hS 1 1 rfl rfl (z_in (by decide) (by decide)) dX12_four_19 (fun H locs hP hD hS => ?_)
  have hP : va_P D vwCl [(mo, .inr (12, [.int 0, .ref m1, .ref m2, .ref m3, .ref m4, .ref m5, .int 0, .int 0, .int 0, .int 0, .int 0, .long 0, .int 0, .int 0, .int 0, .int (-1), .ref m16, .ref m17, .ref m18, .ref m19, .ref m20, .ref m21, .ref m22, .ref m23, .int 0, .ref m25, .ref m26, .ref m27, .ref m28, .ref m29, .int 0, .ref m31, .ref m32, .ref m33, .int 0, .int 0, .int 0, .ref m37, .ref m38, .ref m39, .ref m40, .long 0])), (m5, .inl (k 1, 1000, .inl (upd fb 0 (vp_nar .byte x_1.toInt8.toInt32))))] H := hP
  have hD : va_D A [(mo, .inr (12, [.int 0, .ref m1, .ref m2, .ref m3, .ref m4, .ref m5, .int 0, .int 0, .int 0, .int 0, .int 0, .long 0, .int 0, .int 0, .int 0, .int (-1), .ref m16, .ref m17, .ref m18, .ref m19, .ref m20, .ref m21, .ref m22, .ref m23, .int 0, .ref m25, .ref m26, .ref m27, .ref m28, .ref m29, .int 0, .ref m31, .ref m32, .ref m33, .int 0, .int 0, .int 0, .ref m37, .ref m38, .ref m39, .ref m40, .long 0])), (m5, .inl (k 1, 1000, .inl (upd fb 0 (vp_nar .byte x_1.toInt8.toInt32))))] := hD
  refine lv_aload_n hx hb dX12_four_20 rfl (lv_at hl 1 rfl) ?_
  refine lv_dup hx hb dX12_four_21 rfl ?_
  refine va_get (D := D) (ci := 12) (v := .int 0) (C := RX12) (T := TX12) (N := 42) hx hb hts iT_X12 hown hK hP 0 rfl rfl 6 (by decide) (hts _ tw_6_59) (fun _ h9 => h9) rfl dX12_four_22 ?_
  refine lv_iconst (v := 1) hx hb dX12_four_25 (by decide) ?_
  refine lv_iadd hx hb dX12_four_26 ?_
  refine lv_topi (fun x_3 ex_3 => ?_)
  obtain rfl : x_3 = 1 := ex_3.trans (by decide)
  refine va_put (D := D) (ci := 12) (v := .int 1) (ty := tyX12 6) (C := RX12) (T := TX12) (N := 42) hx hb hts iT_X12 tyX12 tyX12_ok nmX12 hown hK hP hD hS 0 rfl rfl 6 (by decide) (hts _ tw_6_59) (fun _ h9 => h9) rfl (tyX12_ok 6 (by decide)) rfl rfl (Nat.le_of_ble_eq_true rfl) dX12_four_27 (fun H locs hP hD hS => ?_)
  have hP : va_P D vwCl [(mo, .inr (12, [.int 0, .ref m1, .ref m2, .ref m3, .ref m4, .ref m5, .int 1, .int 0, .int 0, .int 0, .int 0, .long 0, .int 0, .int 0, .int 0, .int (-1), .ref m16, .ref m17, .ref m18, .ref m19, .ref m20, .ref m21, .ref m22, .ref m23, .int 0, .ref m25, .ref m26, .ref m27, .ref m28, .ref m29, .int 0, .ref m31, .ref m32, .ref m33, .int 0, .int 0, .int 0, .ref m37, .ref m38, .ref m39, .ref m40, .long 0])), (m5, .inl (k 1, 1000, .inl (upd fb 0 (vp_nar .byte x_1.toInt8.toInt32))))] H := hP
  have hD : va_D A [(mo, .inr (12, [.int 0, .ref m1, .ref m2, .ref m3, .ref m4, .ref m5, .int 1, .int 0, .int 0, .int 0, .int 0, .long 0, .int 0, .int 0, .int 0, .int (-1), .ref m16, .ref m17, .ref m18, .ref m19, .ref m20, .ref m21, .ref m22, .ref m23, .int 0, .ref m25, .ref m26, .ref m27, .ref m28, .ref m29, .int 0, .ref m31, .ref m32, .ref m33, .int 0, .int 0, .int 0, .ref m37, .ref m38, .ref m39, .ref m40, .long 0])), (m5, .inl (k 1, 1000, .inl (upd fb 0 (vp_nar .byte x_1.toInt8.toInt32))))] := hD
  refine lv_iinc (v := 16) (lv' := [(2, .int 16), (0, .ref mo), (1, .int p0)]) hx hb dX12_four_30 hl (k := 0) rfl (by decide) (by decide) rfl (fun ls hl => ?_)
  refine lv_goto (tgt := 3) hx hb dX12_four_33 (by decide) ?_
  refine lv_iload_n hx hb dX12_four_3 rfl (lv_at hl 0 rfl) ?_
  refine lv_if_lt (tgt := 36) hx hb dX12_four_4 (by decide) (fun c9 => absurd c9 (by decide)) (fun _ => ?_)
  refine lv_aload_n hx hb dX12_four_7 rfl (lv_at hl 1 rfl) ?_
  refine va_get (D := D) (ci := 12) (v := .ref m5) (C := RX12) (T := TX12) (N := 42) hx hb hts iT_X12 hown hK hP 0 rfl rfl 5 (by decide) (hts _ tw_6_58) (fun _ h9 => h9) rfl dX12_four_8 ?_
  refine lv_aload_n hx hb dX12_four_11 rfl (lv_at hl 1 rfl) ?_
  refine va_get (D := D) (ci := 12) (v := .int 1) (C := RX12) (T := TX12) (N := 42) hx hb hts iT_X12 hown hK hP 0 rfl rfl 6 (by decide) (hts _ tw_6_59) (fun _ h9 => h9) rfl dX12_four_12 ?_
  refine lv_iload_n hx hb dX12_four_15 rfl (lv_at hl 2 rfl) ?_
  refine lv_iload_n hx hb dX12_four_16 rfl (lv_at hl 0 rfl) ?_
  refine lv_ishr hx hb dX12_four_17 ?_
  refine lv_topi (fun x_5 ex_5 => ?_)
  refine lv_i2b (v := x_5.toInt8.toInt32) hx hb dX12_four_18 rfl ?_
  refine va_bast hx hb hK hP hD hS 1 1 rfl rfl (z_in (by decide) (by decide)) dX12_four_19 (fun H locs hP hD hS => ?_)
  have hP : va_P D vwCl [(mo, .inr (12, [.int 0, .ref m1, .ref m2, .ref m3, .ref m4, .ref m5, .int 1, .int 0, .int 0, .int 0, .int 0, .long 0, .int 0, .int 0, .int 0, .int (-1), .ref m16, .ref m17, .ref m18, .ref m19, .ref m20, .ref m21, .ref m22, .ref m23, .int 0, .ref m25, .ref m26, .ref m27, .ref m28, .ref m29, .int 0, .ref m31, .ref m32, .ref m33, .int 0, .int 0, .int 0, .ref m37, .ref m38, .ref m39, .ref m40, .long 0])), (m5, .inl (k 1, 1000, .inl (upd (upd fb 0 (vp_nar .byte x_1.toInt8.toInt32)) 1 (vp_nar .byte x_5.toInt8.toInt32))))] H := hP
  have hD : va_D A [(mo, .inr (12, [.int 0, .ref m1, .ref m2, .ref m3, .ref m4, .ref m5, .int 1, .int 0, .int 0, .int 0, .int 0, .long 0, .int 0, .int 0, .int 0, .int (-1), .ref m16, .ref m17, .ref m18, .ref m19, .ref m20, .ref m21, .ref m22, .ref m23, .int 0, .ref m25, .ref m26, .ref m27, .ref m28, .ref m29, .int 0, .ref m31, .ref m32, .ref m33, .int 0, .int 0, .int 0, .ref m37, .ref m38, .ref m39, .ref m40, .long 0])), (m5, .inl (k 1, 1000, .inl (upd (upd fb 0 (vp_nar .byte x_1.toInt8.toInt32)) 1 (vp_nar .byte x_5.toInt8.toInt32))))] := hD
  refine lv_aload_n hx hb dX12_four_20 rfl (lv_at hl 1 rfl) ?_
  refine lv_dup hx hb dX12_four_21 rfl ?_
  refine va_get (D := D) (ci := 12) (v := .int 1) (C := RX12) (T := TX12) (N := 42) hx hb hts iT_X12 hown hK hP 0 rfl rfl 6 (by decide) (hts _ tw_6_59) (fun _ h9 => h9) rfl dX12_four_22 ?_
  refine lv_iconst (v := 1) hx hb dX12_four_25 (by decide) ?_
  refine lv_iadd hx hb dX12_four_26 ?_
  refine lv_topi (fun x_7 ex_7 => ?_)
  obtain rfl : x_7 = 2 := ex_7.trans (by decide)
  refine va_put (D := D) (ci := 12) (v := .int 2) (ty := tyX12 6) (C := RX12) (T := TX12) (N := 42) hx hb hts iT_X12 tyX12 tyX12_ok nmX12 hown hK hP hD hS 0 rfl rfl 6 (by decide) (hts _ tw_6_59) (fun _ h9 => h9) rfl (tyX12_ok 6 (by decide)) rfl rfl (Nat.le_of_ble_eq_true rfl) dX12_four_27 (fun H locs hP hD hS => ?_)
  have hP : va_P D vwCl [(mo, .inr (12, [.int 0, .ref m1, .ref m2, .ref m3, .ref m4, .ref m5, .int 2, .int 0, .int 0, .int 0, .int 0, .long 0, .int 0, .int 0, .int 0, .int (-1), .ref m16, .ref m17, .ref m18, .ref m19, .ref m20, .ref m21, .ref m22, .ref m23, .int 0, .ref m25, .ref m26, .ref m27, .ref m28, .ref m29, .int 0, .ref m31, .ref m32, .ref m33, .int 0, .int 0, .int 0, .ref m37, .ref m38, .ref m39, .ref m40, .long 0])), (m5, .inl (k 1, 1000, .inl (upd (upd fb 0 (vp_nar .byte x_1.toInt8.toInt32)) 1 (vp_nar .byte x_5.toInt8.toInt32))))] H := hP
  have hD : va_D A [(mo, .inr (12, [.int 0, .ref m1, .ref m2, .ref m3, .ref m4, .ref m5, .int 2, .int 0, .int 0, .int 0, .int 0, .long 0, .int 0, .int 0, .int 0, .int (-1), .ref m16, .ref m17, .ref m18, .ref m19, .ref m20, .ref m21, .ref m22, .ref m23, .int 0, .ref m25, .ref m26, .ref m27, .ref m28, .ref m29, .int 0, .ref m31, .ref m32, .ref m33, .int 0, .int 0, .int 0, .ref m37, .ref m38, .ref m39, .ref m40, .long 0])), (m5, .inl (k 1, 1000, .inl (upd (upd fb 0 (vp_nar .byte x_1.toInt8.toInt32)) 1 (vp_nar .byte x_5.toInt8.toInt32))))] := hD
  refine lv_iinc (v := 8) (lv' := [(2, .int 8), (0, .ref mo), (1, .int p0)]) hx hb dX12_four_30 hl (k := 0) rfl (by decide) (by decide) rfl (fun ls hl => ?_)
  refine lv_goto (tgt := 3) hx hb dX12_four_33 (by decide) ?_
  refine lv_iload_n hx hb dX12_four_3 rfl (lv_at hl 0 rfl) ?_
  refine lv_if_lt (tgt := 36) hx hb dX12_four_4 (by decide) (fun c9 => absurd c9 (by decide)) (fun _ => ?_)
  refine lv_aload_n hx hb dX12_four_7 rfl (lv_at hl 1 rfl) ?_
  refine va_get (D := D) (ci := 12) (v := .ref m5) (C := RX12) (T := TX12) (N := 42) hx hb hts iT_X12 hown hK hP 0 rfl rfl 5 (by decide) (hts _ tw_6_58) (fun _ h9 => h9) rfl dX12_four_8 ?_
  refine lv_aload_n hx hb dX12_four_11 rfl (lv_at hl 1 rfl) ?_
  refine va_get (D := D) (ci := 12) (v := .int 2) (C := RX12) (T := TX12) (N := 42) hx hb hts iT_X12 hown hK hP 0 rfl rfl 6 (by decide) (hts _ tw_6_59) (fun _ h9 => h9) rfl dX12_four_12 ?_
  refine lv_iload_n hx hb dX12_four_15 rfl (lv_at hl 2 rfl) ?_
  refine lv_iload_n hx hb dX12_four_16 rfl (lv_at hl 0 rfl) ?_
  refine lv_ishr hx hb dX12_four_17 ?_
  refine lv_topi (fun x_9 ex_9 => ?_)
  refine lv_i2b (v := x_9.toInt8.toInt32) hx hb dX12_four_18 rfl ?_
  refine va_bast hx hb hK hP hD hS 1 1 rfl rfl (z_in (by decide) (by decide)) dX12_four_19 (fun H locs hP hD hS => ?_)
  have hP : va_P D vwCl [(mo, .inr (12, [.int 0, .ref m1, .ref m2, .ref m3, .ref m4, .ref m5, .int 2, .int 0, .int 0, .int 0, .int 0, .long 0, .int 0, .int 0, .int 0, .int (-1), .ref m16, .ref m17, .ref m18, .ref m19, .ref m20, .ref m21, .ref m22, .ref m23, .int 0, .ref m25, .ref m26, .ref m27, .ref m28, .ref m29, .int 0, .ref m31, .ref m32, .ref m33, .int 0, .int 0, .int 0, .ref m37, .ref m38, .ref m39, .ref m40, .long 0])), (m5, .inl (k 1, 1000, .inl (upd (upd (upd fb 0 (vp_nar .byte x_1.toInt8.toInt32)) 1 (vp_nar .byte x_5.toInt8.toInt32)) 2 (vp_nar .byte x_9.toInt8.toInt32))))] H := hP
  have hD : va_D A [(mo, .inr (12, [.int 0, .ref m1, .ref m2, .ref m3, .ref m4, .ref m5, .int 2, .int 0, .int 0, .int 0, .int 0, .long 0, .int 0, .int 0, .int 0, .int (-1), .ref m16, .ref m17, .ref m18, .ref m19, .ref m20, .ref m21, .ref m22, .ref m23, .int 0, .ref m25, .ref m26, .ref m27, .ref m28, .ref m29, .int 0, .ref m31, .ref m32, .ref m33, .int 0, .int 0, .int 0, .ref m37, .ref m38, .ref m39, .ref m40, .long 0])), (m5, .inl (k 1, 1000, .inl (upd (upd (upd fb 0 (vp_nar .byte x_1.toInt8.toInt32)) 1 (vp_nar .byte x_5.toInt8.toInt32)) 2 (vp_nar .byte x_9.toInt8.toInt32))))] := hD
  refine lv_aload_n hx hb dX12_four_20 rfl (lv_at hl 1 rfl) ?_
  refine lv_dup hx hb dX12_four_21 rfl ?_
  refine va_get (D := D) (ci := 12) (v := .int 2) (C := RX12) (T := TX12) (N := 42) hx hb hts iT_X12 hown hK hP 0 rfl rfl 6 (by decide) (hts _ tw_6_59) (fun _ h9 => h9) rfl dX12_four_22 ?_
  refine lv_iconst (v := 1) hx hb dX12_four_25 (by decide) ?_
  refine lv_iadd hx hb dX12_four_26 ?_
  refine lv_topi (fun x_11 ex_11 => ?_)
  obtain rfl : x_11 = 3 := ex_11.trans (by decide)
  refine va_put (D := D) (ci := 12) (v := .int 3) (ty := tyX12 6) (C := RX12) (T := TX12) (N := 42) hx hb hts iT_X12 tyX12 tyX12_ok nmX12 hown hK hP hD hS 0 rfl rfl 6 (by decide) (hts _ tw_6_59) (fun _ h9 => h9) rfl (tyX12_ok 6 (by decide)) rfl rfl (Nat.le_of_ble_eq_true rfl) dX12_four_27 (fun H locs hP hD hS => ?_)
  have hP : va_P D vwCl [(mo, .inr (12, [.int 0, .ref m1, .ref m2, .ref m3, .ref m4, .ref m5, .int 3, .int 0, .int 0, .int 0, .int 0, .long 0, .int 0, .int 0, .int 0, .int (-1), .ref m16, .ref m17, .ref m18, .ref m19, .ref m20, .ref m21, .ref m22, .ref m23, .int 0, .ref m25, .ref m26, .ref m27, .ref m28, .ref m29, .int 0, .ref m31, .ref m32, .ref m33, .int 0, .int 0, .int 0, .ref m37, .ref m38, .ref m39, .ref m40, .long 0])), (m5, .inl (k 1, 1000, .inl (upd (upd (upd fb 0 (vp_nar .byte x_1.toInt8.toInt32)) 1 (vp_nar .byte x_5.toInt8.toInt32)) 2 (vp_nar .byte x_9.toInt8.toInt32))))] H := hP
  have hD : va_D A [(mo, .inr (12, [.int 0, .ref m1, .ref m2, .ref m3, .ref m4, .ref m5, .int 3, .int 0, .int 0, .int 0, .int 0, .long 0, .int 0, .int 0, .int 0, .int (-1), .ref m16, .ref m17, .ref m18, .ref m19, .ref m20, .ref m21, .ref m22, .ref m23, .int 0, .ref m25, .ref m26, .ref m27, .ref m28, .ref m29, .int 0, .ref m31, .ref m32, .ref m33, .int 0, .int 0, .int 0, .ref m37, .ref m38, .ref m39, .ref m40, .long 0])), (m5, .inl (k 1, 1000, .inl (upd (upd (upd fb 0 (vp_nar .byte x_1.toInt8.toInt32)) 1 (vp_nar .byte x_5.toInt8.toInt32)) 2 (vp_nar .byte x_9.toInt8.toInt32))))] := hD
  refine lv_iinc (v := 0) (lv' := [(2, .int 0), (0, .ref mo), (1, .int p0)]) hx hb dX12_four_30 hl (k := 0) rfl (by decide) (by decide) rfl (fun ls hl => ?_)
  refine lv_goto (tgt := 3) hx hb dX12_four_33 (by decide) ?_
  refine lv_iload_n hx hb dX12_four_3 rfl (lv_at hl 0 rfl) ?_
  refine lv_if_lt (tgt := 36) hx hb dX12_four_4 (by decide) (fun c9 => absurd c9 (by decide)) (fun _ => ?_)
  refine lv_aload_n hx hb dX12_four_7 rfl (lv_at hl 1 rfl) ?_
  refine va_get (D := D) (ci := 12) (v := .ref m5) (C := RX12) (T := TX12) (N := 42) hx hb hts iT_X12 hown hK hP 0 rfl rfl 5 (by decide) (hts _ tw_6_58) (fun _ h9 => h9) rfl dX12_four_8 ?_
  refine lv_aload_n hx hb dX12_four_11 rfl (lv_at hl 1 rfl) ?_
  refine va_get (D := D) (ci := 12) (v := .int 3) (C := RX12) (T := TX12) (N := 42) hx hb hts iT_X12 hown hK hP 0 rfl rfl 6 (by decide) (hts _ tw_6_59) (fun _ h9 => h9) rfl dX12_four_12 ?_
  refine lv_iload_n hx hb dX12_four_15 rfl (lv_at hl 2 rfl) ?_
  refine lv_iload_n hx hb dX12_four_16 rfl (lv_at hl 0 rfl) ?_
  refine lv_ishr hx hb dX12_four_17 ?_
  refine lv_topi (fun x_13 ex_13 => ?_)
  refine lv_i2b (v := x_13.toInt8.toInt32) hx hb dX12_four_18 rfl ?_
  refine va_bast hx hb hK hP hD hS 1 1 rfl rfl (z_in (by decide) (by decide)) dX12_four_19 (fun H locs hP hD hS => ?_)
  have hP : va_P D vwCl [(mo, .inr (12, [.int 0, .ref m1, .ref m2, .ref m3, .ref m4, .ref m5, .int 3, .int 0, .int 0, .int 0, .int 0, .long 0, .int 0, .int 0, .int 0, .int (-1), .ref m16, .ref m17, .ref m18, .ref m19, .ref m20, .ref m21, .ref m22, .ref m23, .int 0, .ref m25, .ref m26, .ref m27, .ref m28, .ref m29, .int 0, .ref m31, .ref m32, .ref m33, .int 0, .int 0, .int 0, .ref m37, .ref m38, .ref m39, .ref m40, .long 0])), (m5, .inl (k 1, 1000, .inl (upd (upd (upd (upd fb 0 (vp_nar .byte x_1.toInt8.toInt32)) 1 (vp_nar .byte x_5.toInt8.toInt32)) 2 (vp_nar .byte x_9.toInt8.toInt32)) 3 (vp_nar .byte x_13.toInt8.toInt32))))] H := hP
  have hD : va_D A [(mo, .inr (12, [.int 0, .ref m1, .ref m2, .ref m3, .ref m4, .ref m5, .int 3, .int 0, .int 0, .int 0, .int 0, .long 0, .int 0, .int 0, .int 0, .int (-1), .ref m16, .ref m17, .ref m18, .ref m19, .ref m20, .ref m21, .ref m22, .ref m23, .int 0, .ref m25, .ref m26, .ref m27, .ref m28, .ref m29, .int 0, .ref m31, .ref m32, .ref m33, .int 0, .int 0, .int 0, .ref m37, .ref m38, .ref m39, .ref m40, .long 0])), (m5, .inl (k 1, 1000, .inl (upd (upd (upd (upd fb 0 (vp_nar .byte x_1.toInt8.toInt32)) 1 (vp_nar .byte x_5.toInt8.toInt32)) 2 (vp_nar .byte x_9.toInt8.toInt32)) 3 (vp_nar .byte x_13.toInt8.toInt32))))] := hD
  refine lv_aload_n hx hb dX12_four_20 rfl (lv_at hl 1 rfl) ?_
  refine lv_dup hx hb dX12_four_21 rfl ?_
  refine va_get (D := D) (ci := 12) (v := .int 3) (C := RX12) (T := TX12) (N := 42) hx hb hts iT_X12 hown hK hP 0 rfl rfl 6 (by decide) (hts _ tw_6_59) (fun _ h9 => h9) rfl dX12_four_22 ?_
  refine lv_iconst (v := 1) hx hb dX12_four_25 (by decide) ?_
  refine lv_iadd hx hb dX12_four_26 ?_
  refine lv_topi (fun x_15 ex_15 => ?_)
  obtain rfl : x_15 = 4 := ex_15.trans (by decide)
  refine va_put (D := D) (ci := 12) (v := .int 4) (ty := tyX12 6) (C := RX12) (T := TX12) (N := 42) hx hb hts iT_X12 tyX12 tyX12_ok nmX12 hown hK hP hD hS 0 rfl rfl 6 (by decide) (hts _ tw_6_59) (fun _ h9 => h9) rfl (tyX12_ok 6 (by decide)) rfl rfl (Nat.le_of_ble_eq_true rfl) dX12_four_27 (fun H locs hP hD hS => ?_)
  have hP : va_P D vwCl [(mo, .inr (12, [.int 0, .ref m1, .ref m2, .ref m3, .ref m4, .ref m5, .int 4, .int 0, .int 0, .int 0, .int 0, .long 0, .int 0, .int 0, .int 0, .int (-1), .ref m16, .ref m17, .ref m18, .ref m19, .ref m20, .ref m21, .ref m22, .ref m23, .int 0, .ref m25, .ref m26, .ref m27, .ref m28, .ref m29, .int 0, .ref m31, .ref m32, .ref m33, .int 0, .int 0, .int 0, .ref m37, .ref m38, .ref m39, .ref m40, .long 0])), (m5, .inl (k 1, 1000, .inl (upd (upd (upd (upd fb 0 (vp_nar .byte x_1.toInt8.toInt32)) 1 (vp_nar .byte x_5.toInt8.toInt32)) 2 (vp_nar .byte x_9.toInt8.toInt32)) 3 (vp_nar .byte x_13.toInt8.toInt32))))] H := hP
  have hD : va_D A [(mo, .inr (12, [.int 0, .ref m1, .ref m2, .ref m3, .ref m4, .ref m5, .int 4, .int 0, .int 0, .int 0, .int 0, .long 0, .int 0, .int 0, .int 0, .int (-1), .ref m16, .ref m17, .ref m18, .ref m19, .ref m20, .ref m21, .ref m22, .ref m23, .int 0, .ref m25, .ref m26, .ref m27, .ref m28, .ref m29, .int 0, .ref m31, .ref m32, .ref m33, .int 0, .int 0, .int 0, .ref m37, .ref m38, .ref m39, .ref m40, .long 0])), (m5, .inl (k 1, 1000, .inl (upd (upd (upd (upd fb 0 (vp_nar .byte x_1.toInt8.toInt32)) 1 (vp_nar .byte x_5.toInt8.toInt32)) 2 (vp_nar .byte x_9.toInt8.toInt32)) 3 (vp_nar .byte x_13.toInt8.toInt32))))] := hD
  refine lv_iinc (v := (-8)) (lv' := [(2, .int (-8)), (0, .ref mo), (1, .int p0)]) hx hb dX12_four_30 hl (k := 0) rfl (by decide) (by decide) rfl (fun ls hl => ?_)
  refine lv_goto (tgt := 3) hx hb dX12_four_33 (by decide) ?_
  refine lv_iload_n hx hb dX12_four_3 rfl (lv_at hl 0 rfl) ?_
  refine lv_if_lt (tgt := 36) hx hb dX12_four_4 (by decide) (fun _ => ?_) (fun c9 => absurd c9 (by decide))
  have hP9 := hP.sub (ws' := [(mo, .inr (12, [.int 0, .ref m1, .ref m2, .ref m3, .ref m4, .ref m5, .int 4, .int 0, .int 0, .int 0, .int 0, .long 0, .int 0, .int 0, .int 0, .int (-1), .ref m16, .ref m17, .ref m18, .ref m19, .ref m20, .ref m21, .ref m22, .ref m23, .int 0, .ref m25, .ref m26, .ref m27, .ref m28, .ref m29, .int 0, .ref m31, .ref m32, .ref m33, .int 0, .int 0, .int 0, .ref m37, .ref m38, .ref m39, .ref m40, .long 0])), (m5, .inl (k 1, 1000, .inl (upd (upd (upd (upd fb 0 (vp_nar .byte x_1.toInt8.toInt32)) 1 (vp_nar .byte x_5.toInt8.toInt32)) 2 (vp_nar .byte x_9.toInt8.toInt32)) 3 (vp_nar .byte x_13.toInt8.toInt32))))]) [0, 1] rfl
  have hD9 := hD.sub (ws' := [(mo, .inr (12, [.int 0, .ref m1, .ref m2, .ref m3, .ref m4, .ref m5, .int 4, .int 0, .int 0, .int 0, .int 0, .long 0, .int 0, .int 0, .int 0, .int (-1), .ref m16, .ref m17, .ref m18, .ref m19, .ref m20, .ref m21, .ref m22, .ref m23, .int 0, .ref m25, .ref m26, .ref m27, .ref m28, .ref m29, .int 0, .ref m31, .ref m32, .ref m33, .int 0, .int 0, .int 0, .ref m37, .ref m38, .ref m39, .ref m40, .long 0])), (m5, .inl (k 1, 1000, .inl (upd (upd (upd (upd fb 0 (vp_nar .byte x_1.toInt8.toInt32)) 1 (vp_nar .byte x_5.toInt8.toInt32)) 2 (vp_nar .byte x_9.toInt8.toInt32)) 3 (vp_nar .byte x_13.toInt8.toInt32))))]) [0, 1] (by decide) rfl
  exact W.vret hx hb hr (fun tZ ht hW => ⟨⟨upd (upd (upd (upd fb 0 (vp_nar .byte x_1.toInt8.toInt32)) 1 (vp_nar .byte x_5.toInt8.toInt32)) 2 (vp_nar .byte x_9.toInt8.toInt32)) 3 (vp_nar .byte x_13.toInt8.toInt32), rfl, trivial, by rw [ht]; exact hP9, va_K.moved hW.alike hK, hD9⟩, hS.F ht⟩) hS.2.2 dX12_four_36
set_option maxHeartbeats 4000000 in
set_option maxRecDepth 100000 in
theorem c_X12_four_4 (l : Launch) (D : va_G) (k : Nat → ClassId) (mo : Nat) (m1 : Nat) (m2 : Nat) (m3 : Nat) (m4 : Nat) (m5 : Nat) (m16 : Nat) (m17 : Nat) (m18 : Nat) (m19 : Nat) (m20 : Nat) (m21 : Nat) (m22 : Nat) (m23 : Nat) (m25 : Nat) (m26 : Nat) (m27 : Nat) (m28 : Nat) (m29 : Nat) (m31 : Nat) (m32 : Nat) (m33 : Nat) (m37 : Nat) (m38 : Nat) (m39 : Nat) (m40 : Nat) (fb : Nat → Int32) (p0 : Int32) (sz : Nat) : Met l yX12_four (ww yX12_four cX12_four 3 none) ({ frames := 0, cells := 0, slots := 0, locals := 0 }) (Pre0 D k [(mo, .inr (12, [.int 0, .ref m1, .ref m2, .ref m3, .ref m4, .ref m5, .int 4, .int 0, .int 0, .int 0, .int 0, .long 0, .int 0, .int 0, .int 0, .int (-1), .ref m16, .ref m17, .ref m18, .ref m19, .ref m20, .ref m21, .ref m22, .ref m23, .int 0, .ref m25, .ref m26, .ref m27, .ref m28, .ref m29, .int 0, .ref m31, .ref m32, .ref m33, .int 0, .int 0, .int 0, .ref m37, .ref m38, .ref m39, .ref m40, .long 0])), (m5, .inl (k 1, 1000, .inl fb))] sz [.ref mo, .int p0]) (va_Qv (fun (f2 : (Nat → Int32)) => True) (fun (f2 : (Nat → Int32)) tZ => Bw D k (va_A [(mo, .inr (12, [.int 0, .ref m1, .ref m2, .ref m3, .ref m4, .ref m5, .int 4, .int 0, .int 0, .int 0, .int 0, .long 0, .int 0, .int 0, .int 0, .int (-1), .ref m16, .ref m17, .ref m18, .ref m19, .ref m20, .ref m21, .ref m22, .ref m23, .int 0, .ref m25, .ref m26, .ref m27, .ref m28, .ref m29, .int 0, .ref m31, .ref m32, .ref m33, .int 0, .int 0, .int 0, .ref m37, .ref m38, .ref m39, .ref m40, .long 0])), (m5, .inl (k 1, 1000, .inl fb))] sz) [(mo, .inr (12, [.int 0, .ref m1, .ref m2, .ref m3, .ref m4, .ref m5, .int 8, .int 0, .int 0, .int 0, .int 0, .long 0, .int 0, .int 0, .int 0, .int (-1), .ref m16, .ref m17, .ref m18, .ref m19, .ref m20, .ref m21, .ref m22, .ref m23, .int 0, .ref m25, .ref m26, .ref m27, .ref m28, .ref m29, .int 0, .ref m31, .ref m32, .ref m33, .int 0, .int 0, .int 0, .ref m37, .ref m38, .ref m39, .ref m40, .long 0])), (m5, .inl (k 1, 1000, .inl f2))] tZ) (va_A [(mo, .inr (12, [.int 0, .ref m1, .ref m2, .ref m3, .ref m4, .ref m5, .int 4, .int 0, .int 0, .int 0, .int 0, .long 0, .int 0, .int 0, .int 0, .int (-1), .ref m16, .ref m17, .ref m18, .ref m19, .ref m20, .ref m21, .ref m22, .ref m23, .int 0, .ref m25, .ref m26, .ref m27, .ref m28, .ref m29, .int 0, .ref m31, .ref m32, .ref m33, .int 0, .int 0, .int 0, .ref m37, .ref m38, .ref m39, .ref m40, .long 0])), (m5, .inl (k 1, 1000, .inl fb))] sz)) 0 0 (va_A [(mo, .inr (12, [.int 0, .ref m1, .ref m2, .ref m3, .ref m4, .ref m5, .int 4, .int 0, .int 0, .int 0, .int 0, .long 0, .int 0, .int 0, .int 0, .int (-1), .ref m16, .ref m17, .ref m18, .ref m19, .ref m20, .ref m21, .ref m22, .ref m23, .int 0, .ref m25, .ref m26, .ref m27, .ref m28, .ref m29, .int 0, .ref m31, .ref m32, .ref m33, .int 0, .int 0, .int 0, .ref m37, .ref m38, .ref m39, .ref m40, .long 0])), (m5, .inl (k 1, 1000, .inl fb))] sz) := by
  refine Met.ofW (cc := cX12_four) (maxL := 3) (ret := none) (by decide +kernel) rfl ?_
  intro p e s m args below meth c s₁ B hml hv
  obtain ⟨rfl, hsz, hP, hK, hD0, hN⟩ := hv
  have hx := B.exec
  have hb := B.bytes
  have hr := B.returns
  have hts : ∀ w ∈ TT, w.before _ s = true := fun w h => atoms_spec (ws := ww yX12_four cX12_four 3 none) B.pre w (List.mem_cons_of_mem _ h)
  have hown : s.vm.findClass RX12 = some m.cls := findClass_of_methodNamed B.named
  have hlocks := B.notSynchronized
  subst hsz
  have hD := hD0.self (sz := s.heap.size)
  generalize hAe : va_A [(mo, .inr (12, [.int 0, .ref m1, .ref m2, .ref m3, .ref m4, .ref m5, .int 4, .int 0, .int 0, .int 0, .int 0, .long 0, .int 0, .int 0, .int 0, .int (-1), .ref m16, .ref m17, .ref m18, .ref m19, .ref m20, .ref m21, .ref m22, .ref m23, .int 0, .ref m25, .ref m26, .ref m27, .ref m28, .ref m29, .int 0, .ref m31, .ref m32, .ref m33, .int 0, .int 0, .int 0, .ref m37, .ref m38, .ref m39, .ref m40, .long 0])), (m5, .inl (k 1, 1000, .inl fb))] s.heap.size = A at hD ⊢
  have hA : ∀ q : Nat, s.heap.size ≤ q → A q := fun q h => by rw [← hAe]; exact Or.inr h
  have hS : va_S A s.heap s.heap [] := va_S.rf
  have hl := lv_entry ([.ref mo, .int p0]) (n := 3) (Nat.le_of_ble_eq_true rfl)
  rw [lg_entry_eq]
  generalize (lg_sl ([.ref mo, .int p0]) ++ List.replicate (3 - (lg_sl ([.ref mo, .int p0])).length) Slot.unset).toArray = ls at hl ⊢
  have hl : lv_has ls 3 [(0, .ref mo), (1, .int p0)] := hl
  refine lv_bipush (v := 24) hx hb dX12_four_0 (by decide) ?_
  refine lv_istore_n (lv' := [(2, .int 24), (0, .ref mo), (1, .int p0)]) hx hb dX12_four_2 rfl hl (by decide) rfl (fun ls hl => ?_)
  refine lv_iload_n hx hb dX12_four_3 rfl (lv_at hl 0 rfl) ?_
  refine lv_if_lt (tgt := 36) hx hb dX12_four_4 (by decide) (fun c9 => absurd c9 (by decide)) (fun _ => ?_)
  refine lv_aload_n hx hb dX12_four_7 rfl (lv_at hl 1 rfl) ?_
  refine va_get (D := D) (ci := 12) (v := .ref m5) (C := RX12) (T := TX12) (N := 42) hx hb hts iT_X12 hown hK hP 0 rfl rfl 5 (by decide) (hts _ tw_6_58) (fun _ h9 => h9) rfl dX12_four_8 ?_
  refine lv_aload_n hx hb dX12_four_11 rfl (lv_at hl 1 rfl) ?_
  refine va_get (D := D) (ci := 12) (v := .int 4) (C := RX12) (T := TX12) (N := 42) hx hb hts iT_X12 hown hK hP 0 rfl rfl 6 (by decide) (hts _ tw_6_59) (fun _ h9 => h9) rfl dX12_four_12 ?_
  refine lv_iload_n hx hb dX12_four_15 rfl (lv_at hl 2 rfl) ?_
  refine lv_iload_n hx hb dX12_four_16 rfl (lv_at hl 0 rfl) ?_
  refine lv_ishr hx hb dX12_four_17 ?_
  refine lv_topi (fun x_1 ex_1 => ?_)
  refine lv_i2b (v := x_1.toInt8.toInt32) hx hb dX12_four_18 rfl ?_
  refine va_bast hx hb hK hP hD hS 1 1 rfl rfl (z_in (by decide) (by decide)) dX12_four_19 (fun H locs hP hD hS => ?_)
  have hP : va_P D vwCl [(mo, .inr (12, [.int 0, .ref m1, .ref m2, .ref m3, .ref m4, .ref m5, .int 4, .int 0, .int 0, .int 0, .int 0, .long 0, .int 0, .int 0, .int 0, .int (-1), .ref m16, .ref m17, .ref m18, .ref m19, .ref m20, .ref m21, .ref m22, .ref m23, .int 0, .ref m25, .ref m26, .ref m27, .ref m28, .ref m29, .int 0, .ref m31, .ref m32, .ref m33, .int 0, .int 0, .int 0, .ref m37, .ref m38, .ref m39, .ref m40, .long 0])), (m5, .inl (k 1, 1000, .inl (upd fb 4 (vp_nar .byte x_1.toInt8.toInt32))))] H := hP
  have hD : va_D A [(mo, .inr (12, [.int 0, .ref m1, .ref m2, .ref m3, .ref m4, .ref m5, .int 4, .int 0, .int 0, .int 0, .int 0, .long 0, .int 0, .int 0, .int 0, .int (-1), .ref m16, .ref m17, .ref m18, .ref m19, .ref m20, .ref m21, .ref m22, .ref m23, .int 0, .ref m25, .ref m26, .ref m27, .ref m28, .ref m29, .int 0, .ref m31, .ref m32, .ref m33, .int 0, .int 0, .int 0, .ref m37, .ref m38, .ref m39, .ref m40, .long 0])), (m5, .inl (k 1, 1000, .inl (upd fb 4 (vp_nar .byte x_1.toInt8.toInt32))))] := hD
  refine lv_aload_n hx hb dX12_four_20 rfl (lv_at hl 1 rfl) ?_
  refine lv_dup hx hb dX12_four_21 rfl ?_
  refine va_get (D := D) (ci := 12) (v := .int 4) (C := RX12) (T := TX12) (N := 42) hx hb hts iT_X12 hown hK hP 0 rfl rfl 6 (by decide) (hts _ tw_6_59) (fun _ h9 => h9) rfl dX12_four_22 ?_
  refine lv_iconst (v := 1) hx hb dX12_four_25 (by decide) ?_
  refine lv_iadd hx hb dX12_four_26 ?_
  refine lv_topi (fun x_3 ex_3 => ?_)
  obtain rfl : x_3 = 5 := ex_3.trans (by decide)
  refine va_put (D := D) (ci := 12) (v := .int 5) (ty := tyX12 6) (C := RX12) (T := TX12) (N := 42) hx hb hts iT_X12 tyX12 tyX12_ok nmX12 hown hK hP hD hS 0 rfl rfl 6 (by decide) (hts _ tw_6_59) (fun _ h9 => h9) rfl (tyX12_ok 6 (by decide)) rfl rfl (Nat.le_of_ble_eq_true rfl) dX12_four_27 (fun H locs hP hD hS => ?_)
  have hP : va_P D vwCl [(mo, .inr (12, [.int 0, .ref m1, .ref m2, .ref m3, .ref m4, .ref m5, .int 5, .int 0, .int 0, .int 0, .int 0, .long 0, .int 0, .int 0, .int 0, .int (-1), .ref m16, .ref m17, .ref m18, .ref m19, .ref m20, .ref m21, .ref m22, .ref m23, .int 0, .ref m25, .ref m26, .ref m27, .ref m28, .ref m29, .int 0, .ref m31, .ref m32, .ref m33, .int 0, .int 0, .int 0, .ref m37, .ref m38, .ref m39, .ref m40, .long 0])), (m5, .inl (k 1, 1000, .inl (upd fb 4 (vp_nar .byte x_1.toInt8.toInt32))))] H := hP
  have hD : va_D A [(mo, .inr (12, [.int 0, .ref m1, .ref m2, .ref m3, .ref m4, .ref m5, .int 5, .int 0, .int 0, .int 0, .int 0, .long 0, .int 0, .int 0, .int 0, .int (-1), .ref m16, .ref m17, .ref m18, .ref m19, .ref m20, .ref m21, .ref m22, .ref m23, .int 0, .ref m25, .ref m26, .ref m27, .ref m28, .ref m29, .int 0, .ref m31, .ref m32, .ref m33, .int 0, .int 0, .int 0, .ref m37, .ref m38, .ref m39, .ref m40, .long 0])), (m5, .inl (k 1, 1000, .inl (upd fb 4 (vp_nar .byte x_1.toInt8.toInt32))))] := hD
  refine lv_iinc (v := 16) (lv' := [(2, .int 16), (0, .ref mo), (1, .int p0)]) hx hb dX12_four_30 hl (k := 0) rfl (by decide) (by decide) rfl (fun ls hl => ?_)
  refine lv_goto (tgt := 3) hx hb dX12_four_33 (by decide) ?_
  refine lv_iload_n hx hb dX12_four_3 rfl (lv_at hl 0 rfl) ?_
  refine lv_if_lt (tgt := 36) hx hb dX12_four_4 (by decide) (fun c9 => absurd c9 (by decide)) (fun _ => ?_)
  refine lv_aload_n hx hb dX12_four_7 rfl (lv_at hl 1 rfl) ?_
  refine va_get (D := D) (ci := 12) (v := .ref m5) (C := RX12) (T := TX12) (N := 42) hx hb hts iT_X12 hown hK hP 0 rfl rfl 5 (by decide) (hts _ tw_6_58) (fun _ h9 => h9) rfl dX12_four_8 ?_
  refine lv_aload_n hx hb dX12_four_11 rfl (lv_at hl 1 rfl) ?_
  refine va_get (D := D) (ci := 12) (v := .int 5) (C := RX12) (T := TX12) (N := 42) hx hb hts iT_X12 hown hK hP 0 rfl rfl 6 (by decide) (hts _ tw_6_59) (fun _ h9 => h9) rfl dX12_four_12 ?_
  refine lv_iload_n hx hb dX12_four_15 rfl (lv_at hl 2 rfl) ?_
  refine lv_iload_n hx hb dX12_four_16 rfl (lv_at hl 0 rfl) ?_
  refine lv_ishr hx hb dX12_four_17 ?_
  refine lv_topi (fun x_5 ex_5 => ?_)
  refine lv_i2b (v := x_5.toInt8.toInt32) hx hb dX12_four_18 rfl ?_
  refine va_bast hx hb hK hP hD hS 1 1 rfl rfl (z_in (by decide) (by decide)) dX12_four_19 (fun H locs hP hD hS => ?_)
  have hP : va_P D vwCl [(mo, .inr (12, [.int 0, .ref m1, .ref m2, .ref m3, .ref m4, .ref m5, .int 5, .int 0, .int 0, .int 0, .int 0, .long 0, .int 0, .int 0, .int 0, .int (-1), .ref m16, .ref m17, .ref m18, .ref m19, .ref m20, .ref m21, .ref m22, .ref m23, .int 0, .ref m25, .ref m26, .ref m27, .ref m28, .ref m29, .int 0, .ref m31, .ref m32, .ref m33, .int 0, .int 0, .int 0, .ref m37, .ref m38, .ref m39, .ref m40, .long 0])), (m5, .inl (k 1, 1000, .inl (upd (upd fb 4 (vp_nar .byte x_1.toInt8.toInt32)) 5 (vp_nar .byte x_5.toInt8.toInt32))))] H := hP
  have hD : va_D A [(mo, .inr (12, [.int 0, .ref m1, .ref m2, .ref m3, .ref m4, .ref m5, .int 5, .int 0, .int 0, .int 0, .int 0, .long 0, .int 0, .int 0, .int 0, .int (-1), .ref m16, .ref m17, .ref m18, .ref m19, .ref m20, .ref m21, .ref m22, .ref m23, .int 0, .ref m25, .ref m26, .ref m27, .ref m28, .ref m29, .int 0, .ref m31, .ref m32, .ref m33, .int 0, .int 0, .int 0, .ref m37, .ref m38, .ref m39, .ref m40, .long 0])), (m5, .inl (k 1, 1000, .inl (upd (upd fb 4 (vp_nar .byte x_1.toInt8.toInt32)) 5 (vp_nar .byte x_5.toInt8.toInt32))))] := hD
  refine lv_aload_n hx hb dX12_four_20 rfl (lv_at hl 1 rfl) ?_
  refine lv_dup hx hb dX12_four_21 rfl ?_
  refine va_get (D := D) (ci := 12) (v := .int 5) (C := RX12) (T := TX12) (N := 42) hx hb hts iT_X12 hown hK hP 0 rfl rfl 6 (by decide) (hts _ tw_6_59) (fun _ h9 => h9) rfl dX12_four_22 ?_
  refine lv_iconst (v := 1) hx hb dX12_four_25 (by decide) ?_
  refine lv_iadd hx hb dX12_four_26 ?_
  refine lv_topi (fun x_7 ex_7 => ?_)
  obtain rfl : x_7 = 6 := ex_7.trans (by decide)
  refine va_put (D := D) (ci := 12) (v := .int 6) (ty := tyX12 6) (C := RX12) (T := TX12) (N := 42) hx hb hts iT_X12 tyX12 tyX12_ok nmX12 hown hK hP hD hS 0 rfl rfl 6 (by decide) (hts _ tw_6_59) (fun _ h9 => h9) rfl (tyX12_ok 6 (by decide)) rfl rfl (Nat.le_of_ble_eq_true rfl) dX12_four_27 (fun H locs hP hD hS => ?_)
  have hP : va_P D vwCl [(mo, .inr (12, [.int 0, .ref m1, .ref m2, .ref m3, .ref m4, .ref m5, .int 6, .int 0, .int 0, .int 0, .int 0, .long 0, .int 0, .int 0, .int 0, .int (-1), .ref m16, .ref m17, .ref m18, .ref m19, .ref m20, .ref m21, .ref m22, .ref m23, .int 0, .ref m25, .ref m26, .ref m27, .ref m28, .ref m29, .int 0, .ref m31, .ref m32, .ref m33, .int 0, .int 0, .int 0, .ref m37, .ref m38, .ref m39, .ref m40, .long 0])), (m5, .inl (k 1, 1000, .inl (upd (upd fb 4 (vp_nar .byte x_1.toInt8.toInt32)) 5 (vp_nar .byte x_5.toInt8.toInt32))))] H := hP
  have hD : va_D A [(mo, .inr (12, [.int 0, .ref m1, .ref m2, .ref m3, .ref m4, .ref m5, .int 6, .int 0, .int 0, .int 0, .int 0, .long 0, .int 0, .int 0, .int 0, .int (-1), .ref m16, .ref m17, .ref m18, .ref m19, .ref m20, .ref m21, .ref m22, .ref m23, .int 0, .ref m25, .ref m26, .ref m27, .ref m28, .ref m29, .int 0, .ref m31, .ref m32, .ref m33, .int 0, .int 0, .int 0, .ref m37, .ref m38, .ref m39, .ref m40, .long 0])), (m5, .inl (k 1, 1000, .inl (upd (upd fb 4 (vp_nar .byte x_1.toInt8.toInt32)) 5 (vp_nar .byte x_5.toInt8.toInt32))))] := hD
  refine lv_iinc (v := 8) (lv' := [(2, .int 8), (0, .ref mo), (1, .int p0)]) hx hb dX12_four_30 hl (k := 0) rfl (by decide) (by decide) rfl (fun ls hl => ?_)
  refine lv_goto (tgt := 3) hx hb dX12_four_33 (by decide) ?_
  refine lv_iload_n hx hb dX12_four_3 rfl (lv_at hl 0 rfl) ?_
  refine lv_if_lt (tgt := 36) hx hb dX12_four_4 (by decide) (fun c9 => absurd c9 (by decide)) (fun _ => ?_)
  refine lv_aload_n hx hb dX12_four_7 rfl (lv_at hl 1 rfl) ?_
  refine va_get (D := D) (ci := 12) (v := .ref m5) (C := RX12) (T := TX12) (N := 42) hx hb hts iT_X12 hown hK hP 0 rfl rfl 5 (by decide) (hts _ tw_6_58) (fun _ h9 => h9) rfl dX12_four_8 ?_
  refine lv_aload_n hx hb dX12_four_11 rfl (lv_at hl 1 rfl) ?_
  refine va_get (D := D) (ci := 12) (v := .int 6) (C := RX12) (T := TX12) (N := 42) hx hb hts iT_X12 hown hK hP 0 rfl rfl 6 (by decide) (hts _ tw_6_59) (fun _ h9 => h9) rfl dX12_four_12 ?_
  refine lv_iload_n hx hb dX12_four_15 rfl (lv_at hl 2 rfl) ?_
  refine lv_iload_n hx hb dX12_four_16 rfl (lv_at hl 0 rfl) ?_
  refine lv_ishr hx hb dX12_four_17 ?_
  refine lv_topi (fun x_9 ex_9 => ?_)
  refine lv_i2b (v := x_9.toInt8.toInt32) hx hb dX12_four_18 rfl ?_
  refine va_bast hx hb hK hP hD hS 1 1 rfl rfl (z_in (by decide) (by decide)) dX12_four_19 (fun H locs hP hD hS => ?_)
  have hP : va_P D vwCl [(mo, .inr (12, [.int 0, .ref m1, .ref m2, .ref m3, .ref m4, .ref m5, .int 6, .int 0, .int 0, .int 0, .int 0, .long 0, .int 0, .int 0, .int 0, .int (-1), .ref m16, .ref m17, .ref m18, .ref m19, .ref m20, .ref m21, .ref m22, .ref m23, .int 0, .ref m25, .ref m26, .ref m27, .ref m28, .ref m29, .int 0, .ref m31, .ref m32, .ref m33, .int 0, .int 0, .int 0, .ref m37, .ref m38, .ref m39, .ref m40, .long 0])), (m5, .inl (k 1, 1000, .inl (upd (upd (upd fb 4 (vp_nar .byte x_1.toInt8.toInt32)) 5 (vp_nar .byte x_5.toInt8.toInt32)) 6 (vp_nar .byte x_9.toInt8.toInt32))))] H := hP
  have hD : va_D A [(mo, .inr (12, [.int 0, .ref m1, .ref m2, .ref m3, .ref m4, .ref m5, .int 6, .int 0, .int 0, .int 0, .int 0, .long 0, .int 0, .int 0, .int 0, .int (-1), .ref m16, .ref m17, .ref m18, .ref m19, .ref m20, .ref m21, .ref m22, .ref m23, .int 0, .ref m25, .ref m26, .ref m27, .ref m28, .ref m29, .int 0, .ref m31, .ref m32, .ref m33, .int 0, .int 0, .int 0, .ref m37, .ref m38, .ref m39, .ref m40, .long 0])), (m5, .inl (k 1, 1000, .inl (upd (upd (upd fb 4 (vp_nar .byte x_1.toInt8.toInt32)) 5 (vp_nar .byte x_5.toInt8.toInt32)) 6 (vp_nar .byte x_9.toInt8.toInt32))))] := hD
  refine lv_aload_n hx hb dX12_four_20 rfl (lv_at hl 1 rfl) ?_
  refine lv_dup hx hb dX12_four_21 rfl ?_
  refine va_get (D := D) (ci := 12) (v := .int 6) (C := RX12) (T := TX12) (N := 42) hx hb hts iT_X12 hown hK hP 0 rfl rfl 6 (by decide) (hts _ tw_6_59) (fun _ h9 => h9) rfl dX12_four_22 ?_
  refine lv_iconst (v := 1) hx hb dX12_four_25 (by decide) ?_
  refine lv_iadd hx hb dX12_four_26 ?_
  refine lv_topi (fun x_11 ex_11 => ?_)
  obtain rfl : x_11 = 7 := ex_11.trans (by decide)
  refine va_put (D := D) (ci := 12) (v := .int 7) (ty := tyX12 6) (C := RX12) (T := TX12) (N := 42) hx hb hts iT_X12 tyX12 tyX12_ok nmX12 hown hK hP hD hS 0 rfl rfl 6 (by decide) (hts _ tw_6_59) (fun _ h9 => h9) rfl (tyX12_ok 6 (by decide)) rfl rfl (Nat.le_of_ble_eq_true rfl) dX12_four_27 (fun H locs hP hD hS => ?_)
  have hP : va_P D vwCl [(mo, .inr (12, [.int 0, .ref m1, .ref m2, .ref m3, .ref m4, .ref m5, .int 7, .int 0, .int 0, .int 0, .int 0, .long 0, .int 0, .int 0, .int 0, .int (-1), .ref m16, .ref m17, .ref m18, .ref m19, .ref m20, .ref m21, .ref m22, .ref m23, .int 0, .ref m25, .ref m26, .ref m27, .ref m28, .ref m29, .int 0, .ref m31, .ref m32, .ref m33, .int 0, .int 0, .int 0, .ref m37, .ref m38, .ref m39, .ref m40, .long 0])), (m5, .inl (k 1, 1000, .inl (upd (upd (upd fb 4 (vp_nar .byte x_1.toInt8.toInt32)) 5 (vp_nar .byte x_5.toInt8.toInt32)) 6 (vp_nar .byte x_9.toInt8.toInt32))))] H := hP
  have hD : va_D A [(mo, .inr (12, [.int 0, .ref m1, .ref m2, .ref m3, .ref m4, .ref m5, .int 7, .int 0, .int 0, .int 0, .int 0, .long 0, .int 0, .int 0, .int 0, .int (-1), .ref m16, .ref m17, .ref m18, .ref m19, .ref m20, .ref m21, .ref m22, .ref m23, .int 0, .ref m25, .ref m26, .ref m27, .ref m28, .ref m29, .int 0, .ref m31, .ref m32, .ref m33, .int 0, .int 0, .int 0, .ref m37, .ref m38, .ref m39, .ref m40, .long 0])), (m5, .inl (k 1, 1000, .inl (upd (upd (upd fb 4 (vp_nar .byte x_1.toInt8.toInt32)) 5 (vp_nar .byte x_5.toInt8.toInt32)) 6 (vp_nar .byte x_9.toInt8.toInt32))))] := hD
  refine lv_iinc (v := 0) (lv' := [(2, .int 0), (0, .ref mo), (1, .int p0)]) hx hb dX12_four_30 hl (k := 0) rfl (by decide) (by decide) rfl (fun ls hl => ?_)
  refine lv_goto (tgt := 3) hx hb dX12_four_33 (by decide) ?_
  refine lv_iload_n hx hb dX12_four_3 rfl (lv_at hl 0 rfl) ?_
  refine lv_if_lt (tgt := 36) hx hb dX12_four_4 (by decide) (fun c9 => absurd c9 (by decide)) (fun _ => ?_)
  refine lv_aload_n hx hb dX12_four_7 rfl (lv_at hl 1 rfl) ?_
  refine va_get (D := D) (ci := 12) (v := .ref m5) (C := RX12) (T := TX12) (N := 42) hx hb hts iT_X12 hown hK hP 0 rfl rfl 5 (by decide) (hts _ tw_6_58) (fun _ h9 => h9) rfl dX12_four_8 ?_
  refine lv_aload_n hx hb dX12_four_11 rfl (lv_at hl 1 rfl) ?_
  refine va_get (D := D) (ci := 12) (v := .int 7) (C := RX12) (T := TX12) (N := 42) hx hb hts iT_X12 hown hK hP 0 rfl rfl 6 (by decide) (hts _ tw_6_59) (fun _ h9 => h9) rfl dX12_four_12 ?_
  refine lv_iload_n hx hb dX12_four_15 rfl (lv_at hl 2 rfl) ?_
  refine lv_iload_n hx hb dX12_four_16 rfl (lv_at hl 0 rfl) ?_
  refine lv_ishr hx hb dX12_four_17 ?_
  refine lv_topi (fun x_13 ex_13 => ?_)
  refine lv_i2b (v := x_13.toInt8.toInt32) hx hb dX12_four_18 rfl ?_
  refine va_bast hx hb hK hP hD hS 1 1 rfl rfl (z_in (by decide) (by decide)) dX12_four_19 (fun H locs hP hD hS => ?_)
  have hP : va_P D vwCl [(mo, .inr (12, [.int 0, .ref m1, .ref m2, .ref m3, .ref m4, .ref m5, .int 7, .int 0, .int 0, .int 0, .int 0, .long 0, .int 0, .int 0, .int 0, .int (-1), .ref m16, .ref m17, .ref m18, .ref m19, .ref m20, .ref m21, .ref m22, .ref m23, .int 0, .ref m25, .ref m26, .ref m27, .ref m28, .ref m29, .int 0, .ref m31, .ref m32, .ref m33, .int 0, .int 0, .int 0, .ref m37, .ref m38, .ref m39, .ref m40, .long 0])), (m5, .inl (k 1, 1000, .inl (upd (upd (upd (upd fb 4 (vp_nar .byte x_1.toInt8.toInt32)) 5 (vp_nar .byte x_5.toInt8.toInt32)) 6 (vp_nar .byte x_9.toInt8.toInt32)) 7 (vp_nar .byte x_13.toInt8.toInt32))))] H := hP
  have hD : va_D A [(mo, .inr (12, [.int 0, .ref m1, .ref m2, .ref m3, .ref m4, .ref m5, .int 7, .int 0, .int 0, .int 0, .int 0, .long 0, .int 0, .int 0, .int 0, .int (-1), .ref m16, .ref m17, .ref m18, .ref m19, .ref m20, .ref m21, .ref m22, .ref m23, .int 0, .ref m25, .ref m26, .ref m27, .ref m28, .ref m29, .int 0, .ref m31, .ref m32, .ref m33, .int 0, .int 0, .int 0, .ref m37, .ref m38, .ref m39, .ref m40, .long 0])), (m5, .inl (k 1, 1000, .inl (upd (upd (upd (upd fb 4 (vp_nar .byte x_1.toInt8.toInt32)) 5 (vp_nar .byte x_5.toInt8.toInt32)) 6 (vp_nar .byte x_9.toInt8.toInt32)) 7 (vp_nar .byte x_13.toInt8.toInt32))))] := hD
  refine lv_aload_n hx hb dX12_four_20 rfl (lv_at hl 1 rfl) ?_
  refine lv_dup hx hb dX12_four_21 rfl ?_
  refine va_get (D := D) (ci := 12) (v := .int 7) (C := RX12) (T := TX12) (N := 42) hx hb hts iT_X12 hown hK hP 0 rfl rfl 6 (by decide) (hts _ tw_6_59) (fun _ h9 => h9) rfl dX12_four_22 ?_
  refine lv_iconst (v := 1) hx hb dX12_four_25 (by decide) ?_
  refine lv_iadd hx hb dX12_four_26 ?_
  refine lv_topi (fun x_15 ex_15 => ?_)
  obtain rfl : x_15 = 8 := ex_15.trans (by decide)
  refine va_put (D := D) (ci := 12) (v := .int 8) (ty := tyX12 6) (C := RX12) (T := TX12) (N := 42) hx hb hts iT_X12 tyX12 tyX12_ok nmX12 hown hK hP hD hS 0 rfl rfl 6 (by decide) (hts _ tw_6_59) (fun _ h9 => h9) rfl (tyX12_ok 6 (by decide)) rfl rfl (Nat.le_of_ble_eq_true rfl) dX12_four_27 (fun H locs hP hD hS => ?_)
  have hP : va_P D vwCl [(mo, .inr (12, [.int 0, .ref m1, .ref m2, .ref m3, .ref m4, .ref m5, .int 8, .int 0, .int 0, .int 0, .int 0, .long 0, .int 0, .int 0, .int 0, .int (-1), .ref m16, .ref m17, .ref m18, .ref m19, .ref m20, .ref m21, .ref m22, .ref m23, .int 0, .ref m25, .ref m26, .ref m27, .ref m28, .ref m29, .int 0, .ref m31, .ref m32, .ref m33, .int 0, .int 0, .int 0, .ref m37, .ref m38, .ref m39, .ref m40, .long 0])), (m5, .inl (k 1, 1000, .inl (upd (upd (upd (upd fb 4 (vp_nar .byte x_1.toInt8.toInt32)) 5 (vp_nar .byte x_5.toInt8.toInt32)) 6 (vp_nar .byte x_9.toInt8.toInt32)) 7 (vp_nar .byte x_13.toInt8.toInt32))))] H := hP
  have hD : va_D A [(mo, .inr (12, [.int 0, .ref m1, .ref m2, .ref m3, .ref m4, .ref m5, .int 8, .int 0, .int 0, .int 0, .int 0, .long 0, .int 0, .int 0, .int 0, .int (-1), .ref m16, .ref m17, .ref m18, .ref m19, .ref m20, .ref m21, .ref m22, .ref m23, .int 0, .ref m25, .ref m26, .ref m27, .ref m28, .ref m29, .int 0, .ref m31, .ref m32, .ref m33, .int 0, .int 0, .int 0, .ref m37, .ref m38, .ref m39, .ref m40, .long 0])), (m5, .inl (k 1, 1000, .inl (upd (upd (upd (upd fb 4 (vp_nar .byte x_1.toInt8.toInt32)) 5 (vp_nar .byte x_5.toInt8.toInt32)) 6 (vp_nar .byte x_9.toInt8.toInt32)) 7 (vp_nar .byte x_13.toInt8.toInt32))))] := hD
  refine lv_iinc (v := (-8)) (lv' := [(2, .int (-8)), (0, .ref mo), (1, .int p0)]) hx hb dX12_four_30 hl (k := 0) rfl (by decide) (by decide) rfl (fun ls hl => ?_)
  refine lv_goto (tgt := 3) hx hb dX12_four_33 (by decide) ?_
  refine lv_iload_n hx hb dX12_four_3 rfl (lv_at hl 0 rfl) ?_
  refine lv_if_lt (tgt := 36) hx hb dX12_four_4 (by decide) (fun _ => ?_) (fun c9 => absurd c9 (by decide))
  have hP9 := hP.sub (ws' := [(mo, .inr (12, [.int 0, .ref m1, .ref m2, .ref m3, .ref m4, .ref m5, .int 8, .int 0, .int 0, .int 0, .int 0, .long 0, .int 0, .int 0, .int 0, .int (-1), .ref m16, .ref m17, .ref m18, .ref m19, .ref m20, .ref m21, .ref m22, .ref m23, .int 0, .ref m25, .ref m26, .ref m27, .ref m28, .ref m29, .int 0, .ref m31, .ref m32, .ref m33, .int 0, .int 0, .int 0, .ref m37, .ref m38, .ref m39, .ref m40, .long 0])), (m5, .inl (k 1, 1000, .inl (upd (upd (upd (upd fb 4 (vp_nar .byte x_1.toInt8.toInt32)) 5 (vp_nar .byte x_5.toInt8.toInt32)) 6 (vp_nar .byte x_9.toInt8.toInt32)) 7 (vp_nar .byte x_13.toInt8.toInt32))))]) [0, 1] rfl
  have hD9 := hD.sub (ws' := [(mo, .inr (12, [.int 0, .ref m1, .ref m2, .ref m3, .ref m4, .ref m5, .int 8, .int 0, .int 0, .int 0, .int 0, .long 0, .int 0, .int 0, .int 0, .int (-1), .ref m16, .ref m17, .ref m18, .ref m19, .ref m20, .ref m21, .ref m22, .ref m23, .int 0, .ref m25, .ref m26, .ref m27, .ref m28, .ref m29, .int 0, .ref m31, .ref m32, .ref m33, .int 0, .int 0, .int 0, .ref m37, .ref m38, .ref m39, .ref m40, .long 0])), (m5, .inl (k 1, 1000, .inl (upd (upd (upd (upd fb 4 (vp_nar .byte x_1.toInt8.toInt32)) 5 (vp_nar .byte x_5.toInt8.toInt32)) 6 (vp_nar .byte x_9.toInt8.toInt32)) 7 (vp_nar .byte x_13.toInt8.toInt32))))]) [0, 1] (by decide) rfl
  exact W.vret hx hb hr (fun tZ ht hW => ⟨⟨upd (upd (upd (upd fb 4 (vp_nar .byte x_1.toInt8.toInt32)) 5 (vp_nar .byte x_5.toInt8.toInt32)) 6 (vp_nar .byte x_9.toInt8.toInt32)) 7 (vp_nar .byte x_13.toInt8.toInt32), rfl, trivial, by rw [ht]; exact hP9, va_K.moved hW.alike hK, hD9⟩, hS.F ht⟩) hS.2.2 dX12_four_36
set_option maxHeartbeats 4000000 in
set_option maxRecDepth 100000 in
theorem c_X12_four_8 (l : Launch) (D : va_G) (k : Nat → ClassId) (mo : Nat) (m1 : Nat) (m2 : Nat) (m3 : Nat) (m4 : Nat) (m5 : Nat) (m16 : Nat) (m17 : Nat) (m18 : Nat) (m19 : Nat) (m20 : Nat) (m21 : Nat) (m22 : Nat) (m23 : Nat) (m25 : Nat) (m26 : Nat) (m27 : Nat) (m28 : Nat) (m29 : Nat) (m31 : Nat) (m32 : Nat) (m33 : Nat) (m37 : Nat) (m38 : Nat) (m39 : Nat) (m40 : Nat) (fb : Nat → Int32) (p0 : Int32) (sz : Nat) : Met l yX12_four (ww yX12_four cX12_four 3 none) ({ frames := 0, cells := 0, slots := 0, locals := 0 }) (Pre0 D k [(mo, .inr (12, [.int 0, .ref m1, .ref m2, .ref m3, .ref m4, .ref m5, .int 8, .int 0, .int 0, .int 0, .int 0, .long 0, .int 0, .int 0, .int 0, .int (-1), .ref m16, .ref m17, .ref m18, .ref m19, .ref m20, .ref m21, .ref m22, .ref m23, .int 0, .ref m25, .ref m26, .ref m27, .ref m28, .ref m29, .int 0, .ref m31, .ref m32, .ref m33, .int 0, .int 0, .int 0, .ref m37, .ref m38, .ref m39, .ref m40, .long 0])), (m5, .inl (k 1, 1000, .inl fb))] sz [.ref mo, .int p0]) (va_Qv (fun (f2 : (Nat → Int32)) => True) (fun (f2 : (Nat → Int32)) tZ => Bw D k (va_A [(mo, .inr (12, [.int 0, .ref m1, .ref m2, .ref m3, .ref m4, .ref m5, .int 8, .int 0, .int 0, .int 0, .int 0, .long 0, .int 0, .int 0, .int 0, .int (-1), .ref m16, .ref m17, .ref m18, .ref m19, .ref m20, .ref m21, .ref m22, .ref m23, .int 0, .ref m25, .ref m26, .ref m27, .ref m28, .ref m29, .int 0, .ref m31, .ref m32, .ref m33, .int 0, .int 0, .int 0, .ref m37, .ref m38, .ref m39, .ref m40, .long 0])), (m5, .inl (k 1, 1000, .inl fb))] sz) [(mo, .inr (12, [.int 0, .ref m1, .ref m2, .ref m3, .ref m4, .ref m5, .int 12, .int 0, .int 0, .int 0, .int 0, .long 0, .int 0, .int 0, .int 0, .int (-1), .ref m16, .ref m17, .ref m18, .ref m19, .ref m20, .ref m21, .ref m22, .ref m23, .int 0, .ref m25, .ref m26, .ref m27, .ref m28, .ref m29, .int 0, .ref m31, .ref m32, .ref m33, .int 0, .int 0, .int 0, .ref m37, .ref m38, .ref m39, .ref m40, .long 0])), (m5, .inl (k 1, 1000, .inl f2))] tZ) (va_A [(mo, .inr (12, [.int 0, .ref m1, .ref m2, .ref m3, .ref m4, .ref m5, .int 8, .int 0, .int 0, .int 0, .int 0, .long 0, .int 0, .int 0, .int 0, .int (-1), .ref m16, .ref m17, .ref m18, .ref m19, .ref m20, .ref m21, .ref m22, .ref m23, .int 0, .ref m25, .ref m26, .ref m27, .ref m28, .ref m29, .int 0, .ref m31, .ref m32, .ref m33, .int 0, .int 0, .int 0, .ref m37, .ref m38, .ref m39, .ref m40, .long 0])), (m5, .inl (k 1, 1000, .inl fb))] sz)) 0 0 (va_A [(mo, .inr (12, [.int 0, .ref m1, .ref m2, .ref m3, .ref m4, .ref m5, .int 8, .int 0, .int 0, .int 0, .int 0, .long 0, .int 0, .int 0, .int 0, .int (-1), .ref m16, .ref m17, .ref m18, .ref m19, .ref m20, .ref m21, .ref m22, .ref m23, .int 0, .ref m25, .ref m26, .ref m27, .ref m28, .ref m29, .int 0, .ref m31, .ref m32, .ref m33, .int 0, .int 0, .int 0, .ref m37, .ref m38, .ref m39, .ref m40, .long 0])), (m5, .inl (k 1, 1000, .inl fb))] sz) := by
  refine Met.ofW (cc := cX12_four) (maxL := 3) (ret := none) (by decide +kernel) rfl ?_
  intro p e s m args below meth c s₁ B hml hv
  obtain ⟨rfl, hsz, hP, hK, hD0, hN⟩ := hv
  have hx := B.exec
  have hb := B.bytes
  have hr := B.returns
  have hts : ∀ w ∈ TT, w.before _ s = true := fun w h => atoms_spec (ws := ww yX12_four cX12_four 3 none) B.pre w (List.mem_cons_of_mem _ h)
  have hown : s.vm.findClass RX12 = some m.cls := findClass_of_methodNamed B.named
  have hlocks := B.notSynchronized
  subst hsz
  have hD := hD0.self (sz := s.heap.size)
  generalize hAe : va_A [(mo, .inr (12, [.int 0, .ref m1, .ref m2, .ref m3, .ref m4, .ref m5, .int 8, .int 0, .int 0, .int 0, .int 0, .long 0, .int 0, .int 0, .int 0, .int (-1), .ref m16, .ref m17, .ref m18, .ref m19, .ref m20, .ref m21, .ref m22, .ref m23, .int 0, .ref m25, .ref m26, .ref m27, .ref m28, .ref m29, .int 0, .ref m31, .ref m32, .ref m33, .int 0, .int 0, .int 0, .ref m37, .ref m38, .ref m39, .ref m40, .long 0])), (m5, .inl (k 1, 1000, .inl fb))] s.heap.size = A at hD ⊢
  have hA : ∀ q : Nat, s.heap.size ≤ q → A q := fun q h => by rw [← hAe]; exact Or.inr h
  have hS : va_S A s.heap s.heap [] := va_S.rf
  have hl := lv_entry ([.ref mo, .int p0]) (n := 3) (Nat.le_of_ble_eq_true rfl)
  rw [lg_entry_eq]
  generalize (lg_sl ([.ref mo, .int p0]) ++ List.replicate (3 - (lg_sl ([.ref mo, .int p0])).length) Slot.unset).toArray = ls at hl ⊢
  have hl : lv_has ls 3 [(0, .ref mo), (1, .int p0)] := hl
  refine lv_bipush (v := 24) hx hb dX12_four_0 (by decide) ?_
  refine lv_istore_n (lv' := [(2, .int 24), (0, .ref mo), (1, .int p0)]) hx hb dX12_four_2 rfl hl (by decide) rfl (fun ls hl => ?_)
  refine lv_iload_n hx hb dX12_four_3 rfl (lv_at hl 0 rfl) ?_
  refine lv_if_lt (tgt := 36) hx hb dX12_four_4 (by decide) (fun c9 => absurd c9 (by decide)) (fun _ => ?_)
  refine lv_aload_n hx hb dX12_four_7 rfl (lv_at hl 1 rfl) ?_
  refine va_get (D := D) (ci := 12) (v := .ref m5) (C := RX12) (T := TX12) (N := 42) hx hb hts iT_X12 hown hK hP 0 rfl rfl 5 (by decide) (hts _ tw_6_58) (fun _ h9 => h9) rfl dX12_four_8 ?_
  refine lv_aload_n hx hb dX12_four_11 rfl (lv_at hl 1 rfl) ?_
  refine va_get (D := D) (ci := 12) (v := .int 8) (C := RX12) (T := TX12) (N := 42) hx hb hts iT_X12 hown hK hP 0 rfl rfl 6 (by decide) (hts _ tw_6_59) (fun _ h9 => h9) rfl dX12_four_12 ?_
  refine lv_iload_n hx hb dX12_four_15 rfl (lv_at hl 2 rfl) ?_
  refine lv_iload_n hx hb dX12_four_16 rfl (lv_at hl 0 rfl) ?_
  refine lv_ishr hx hb dX12_four_17 ?_
  refine lv_topi (fun x_1 ex_1 => ?_)
  refine lv_i2b (v := x_1.toInt8.toInt32) hx hb dX12_four_18 rfl ?_
  refine va_bast hx hb hK hP hD hS 1 1 rfl rfl (z_in (by decide) (by decide)) dX12_four_19 (fun H locs hP hD hS => ?_)
  have hP : va_P D vwCl [(mo, .inr (12, [.int 0, .ref m1, .ref m2, .ref m3, .ref m4, .ref m5, .int 8, .int 0, .int 0, .int 0, .int 0, .long 0, .int 0, .int 0, .int 0, .int (-1), .ref m16, .ref m17, .ref m18, .ref m19, .ref m20, .ref m21, .ref m22, .ref m23, .int 0, .ref m25, .ref m26, .ref m27, .ref m28, .ref m29, .int 0, .ref m31, .ref m32, .ref m33, .int 0, .int 0, .int 0, .ref m37, .ref m38, .ref m39, .ref m40, .long 0])), (m5, .inl (k 1, 1000, .inl (upd fb 8 (vp_nar .byte x_1.toInt8.toInt32))))] H := hP
  have hD : va_D A [(mo, .inr (12, [.int 0, .ref m1, .ref m2, .ref m3, .ref m4, .ref m5, .int 8, .int 0, .int 0, .int 0, .int 0, .long 0, .int 0, .int 0, .int 0, .int (-1), .ref m16, .ref m17, .ref m18, .ref m19, .ref m20, .ref m21, .ref m22, .ref m23, .int 0, .ref m25, .ref m26, .ref m27, .ref m28, .ref m29, .int 0, .ref m31, .ref m32, .ref m33, .int 0, .int 0, .int 0, .ref m37, .ref m38, .ref m39, .ref m40, .long 0])), (m5, .inl (k 1, 1000, .inl (upd fb 8 (vp_nar .byte x_1.toInt8.toInt32))))] := hD
  refine lv_aload_n hx hb dX12_four_20 rfl (lv_at hl 1 rfl) ?_
  refine lv_dup hx hb dX12_four_21 rfl ?_
  refine va_get (D := D) (ci := 12) (v := .int 8) (C := RX12) (T := TX12) (N := 42) hx hb hts iT_X12 hown hK hP 0 rfl rfl 6 (by decide) (hts _ tw_6_59) (fun _ h9 => h9) rfl dX12_four_22 ?_
  refine lv_iconst (v := 1) hx hb dX12_four_25 (by decide) ?_
  refine lv_iadd hx hb dX12_four_26 ?_
  refine lv_topi (fun x_3 ex_3 => ?_)
  obtain rfl : x_3 = 9 := ex_3.trans (by decide)
  refine va_put (D := D) (ci := 12) (v := .int 9) (ty := tyX12 6) (C := RX12) (T := TX12) (N := 42) hx hb hts iT_X12 tyX12 tyX12_ok nmX12 hown hK hP hD hS 0 rfl rfl 6 (by decide) (hts _ tw_6_59) (fun _ h9 => h9) rfl (tyX12_ok 6 (by decide)) rfl rfl (Nat.le_of_ble_eq_true rfl) dX12_four_27 (fun H locs hP hD hS => ?_)
  have hP : va_P D vwCl [(mo, .inr (12, [.int 0, .ref m1, .ref m2, .ref m3, .ref m4, .ref m5, .int 9, .int 0, .int 0, .int 0, .int 0, .long 0, .int 0, .int 0, .int 0, .int (-1), .ref m16, .ref m17, .ref m18, .ref m19, .ref m20, .ref m21, .ref m22, .ref m23, .int 0, .ref m25, .ref m26, .ref m27, .ref m28, .ref m29, .int 0, .ref m31, .ref m32, .ref m33, .int 0, .int 0, .int 0, .ref m37, .ref m38, .ref m39, .ref m40, .long 0])), (m5, .inl (k 1, 1000, .inl (upd fb 8 (vp_nar .byte x_1.toInt8.toInt32))))] H := hP
  have hD : va_D A [(mo, .inr (12, [.int 0, .ref m1, .ref m2, .ref m3, .ref m4, .ref m5, .int 9, .int 0, .int 0, .int 0, .int 0, .long 0, .int 0, .int 0, .int 0, .int (-1), .ref m16, .ref m17, .ref m18, .ref m19, .ref m20, .ref m21, .ref m22, .ref m23, .int 0, .ref m25, .ref m26, .ref m27, .ref m28, .ref m29, .int 0, .ref m31, .ref m32, .ref m33, .int 0, .int 0, .int 0, .ref m37, .ref m38, .ref m39, .ref m40, .long 0])), (m5, .inl (k 1, 1000, .inl (upd fb 8 (vp_nar .byte x_1.toInt8.toInt32))))] := hD
  refine lv_iinc (v := 16) (lv' := [(2, .int 16), (0, .ref mo), (1, .int p0)]) hx hb dX12_four_30 hl (k := 0) rfl (by decide) (by decide) rfl (fun ls hl => ?_)
  refine lv_goto (tgt := 3) hx hb dX12_four_33 (by decide) ?_
  refine lv_iload_n hx hb dX12_four_3 rfl (lv_at hl 0 rfl) ?_
  refine lv_if_lt (tgt := 36) hx hb dX12_four_4 (by decide) (fun c9 => absurd c9 (by decide)) (fun _ => ?_)
  refine lv_aload_n hx hb dX12_four_7 rfl (lv_at hl 1 rfl) ?_
  refine va_get (D := D) (ci := 12) (v := .ref m5) (C := RX12) (T := TX12) (N := 42) hx hb hts iT_X12 hown hK hP 0 rfl rfl 5 (by decide) (hts _ tw_6_58) (fun _ h9 => h9) rfl dX12_four_8 ?_
  refine lv_aload_n hx hb dX12_four_11 rfl (lv_at hl 1 rfl) ?_
  refine va_get (D := D) (ci := 12) (v := .int 9) (C := RX12) (T := TX12) (N := 42) hx hb hts iT_X12 hown hK hP 0 rfl rfl 6 (by decide) (hts _ tw_6_59) (fun _ h9 => h9) rfl dX12_four_12 ?_
  refine lv_iload_n hx hb dX12_four_15 rfl (lv_at hl 2 rfl) ?_
  refine lv_iload_n hx hb dX12_four_16 rfl (lv_at hl 0 rfl) ?_
  refine lv_ishr hx hb dX12_four_17 ?_
  refine lv_topi (fun x_5 ex_5 => ?_)
  refine lv_i2b (v := x_5.toInt8.toInt32) hx hb dX12_four_18 rfl ?_
  refine va_bast hx hb hK hP hD hS 1 1 rfl rfl (z_in (by decide) (by decide)) dX12_four_19 (fun H locs hP hD hS => ?_)
  have hP : va_P D vwCl [(mo, .inr (12, [.int 0, .ref m1, .ref m2, .ref m3, .ref m4, .ref m5, .int 9, .int 0, .int 0, .int 0, .int 0, .long 0, .int 0, .int 0, .int 0, .int (-1), .ref m16, .ref m17, .ref m18, .ref m19, .ref m20, .ref m21, .ref m22, .ref m23, .int 0, .ref m25, .ref m26, .ref m27, .ref m28, .ref m29, .int 0, .ref m31, .ref m32, .ref m33, .int 0, .int 0, .int 0, .ref m37, .ref m38, .ref m39, .ref m40, .long 0])), (m5, .inl (k 1, 1000, .inl (upd (upd fb 8 (vp_nar .byte x_1.toInt8.toInt32)) 9 (vp_nar .byte x_5.toInt8.toInt32))))] H := hP
  have hD : va_D A [(mo, .inr (12, [.int 0, .ref m1, .ref m2, .ref m3, .ref m4, .ref m5, .int 9, .int 0, .int 0, .int 0, .int 0, .long 0, .int 0, .int 0, .int 0, .int (-1), .ref m16, .ref m17, .ref m18, .ref m19, .ref m20, .ref m21, .ref m22, .ref m23, .int 0, .ref m25, .ref m26, .ref m27, .ref m28, .ref m29, .int 0, .ref m31, .ref m32, .ref m33, .int 0, .int 0, .int 0, .ref m37, .ref m38, .ref m39, .ref m40, .long 0])), (m5, .inl (k 1, 1000, .inl (upd (upd fb 8 (vp_nar .byte x_1.toInt8.toInt32)) 9 (vp_nar .byte x_5.toInt8.toInt32))))] := hD
  refine lv_aload_n hx hb dX12_four_20 rfl (lv_at hl 1 rfl) ?_
  refine lv_dup hx hb dX12_four_21 rfl ?_
  refine va_get (D := D) (ci := 12) (v := .int 9) (C := RX12) (T := TX12) (N := 42) hx hb hts iT_X12 hown hK hP 0 rfl rfl 6 (by decide) (hts _ tw_6_59) (fun _ h9 => h9) rfl dX12_four_22 ?_
  refine lv_iconst (v := 1) hx hb dX12_four_25 (by decide) ?_
  refine lv_iadd hx hb dX12_four_26 ?_
  refine lv_topi (fun x_7 ex_7 => ?_)
  obtain rfl : x_7 = 10 := ex_7.trans (by decide)
  refine va_put (D := D) (ci := 12) (v := .int 10) (ty := tyX12 6) (C := RX12) (T := TX12) (N := 42) hx hb hts iT_X12 tyX12 tyX12_ok nmX12 hown hK hP hD hS 0 rfl rfl 6 (by decide) (hts _ tw_6_59) (fun _ h9 => h9) rfl (tyX12_ok 6 (by decide)) rfl rfl (Nat.le_of_ble_eq_true rfl) dX12_four_27 (fun H locs hP hD hS => ?_)
  have hP : va_P D vwCl [(mo, .inr (12, [.int 0, .ref m1, .ref m2, .ref m3, .ref m4, .ref m5, .int 10, .int 0, .int 0, .int 0, .int 0, .long 0, .int 0, .int 0, .int 0, .int (-1), .ref m16, .ref m17, .ref m18, .ref m19, .ref m20, .ref m21, .ref m22, .ref m23, .int 0, .ref m25, .ref m26, .ref m27, .ref m28, .ref m29, .int 0, .ref m31, .ref m32, .ref m33, .int 0, .int 0, .int 0, .ref m37, .ref m38, .ref m39, .ref m40, .long 0])), (m5, .inl (k 1, 1000, .inl (upd (upd fb 8 (vp_nar .byte x_1.toInt8.toInt32)) 9 (vp_nar .byte x_5.toInt8.toInt32))))] H := hP
  have hD : va_D A [(mo, .inr (12, [.int 0, .ref m1, .ref m2, .ref m3, .ref m4, .ref m5, .int 10, .int 0, .int 0, .int 0, .int 0, .long 0, .int 0, .int 0, .int 0, .int (-1), .ref m16, .ref m17, .ref m18, .ref m19, .ref m20, .ref m21, .ref m22, .ref m23, .int 0, .ref m25, .ref m26, .ref m27, .ref m28, .ref m29, .int 0, .ref m31, .ref m32, .ref m33, .int 0, .int 0, .int 0, .ref m37, .ref m38, .ref m39, .ref m40, .long 0])), (m5, .inl (k 1, 1000, .inl (upd (upd fb 8 (vp_nar .byte x_1.toInt8.toInt32)) 9 (vp_nar .byte x_5.toInt8.toInt32))))] := hD
  refine lv_iinc (v := 8) (lv' := [(2, .int 8), (0, .ref mo), (1, .int p0)]) hx hb dX12_four_30 hl (k := 0) rfl (by decide) (by decide) rfl (fun ls hl => ?_)
  refine lv_goto (tgt := 3) hx hb dX12_four_33 (by decide) ?_
  refine lv_iload_n hx hb dX12_four_3 rfl (lv_at hl 0 rfl) ?_
  refine lv_if_lt (tgt := 36) hx hb dX12_four_4 (by decide) (fun c9 => absurd c9 (by decide)) (fun _ => ?_)
  refine lv_aload_n hx hb dX12_four_7 rfl (lv_at hl 1 rfl) ?_
  refine va_get (D := D) (ci := 12) (v := .ref m5) (C := RX12) (T := TX12) (N := 42) hx hb hts iT_X12 hown hK hP 0 rfl rfl 5 (by decide) (hts _ tw_6_58) (fun _ h9 => h9) rfl dX12_four_8 ?_
  refine lv_aload_n hx hb dX12_four_11 rfl (lv_at hl 1 rfl) ?_
  refine va_get (D := D) (ci := 12) (v := .int 10) (C := RX12) (T := TX12) (N := 42) hx hb hts iT_X12 hown hK hP 0 rfl rfl 6 (by decide) (hts _ tw_6_59) (fun _ h9 => h9) rfl dX12_four_12 ?_
  refine lv_iload_n hx hb dX12_four_15 rfl (lv_at hl 2 rfl) ?_
  refine lv_iload_n hx hb dX12_four_16 rfl (lv_at hl 0 rfl) ?_
  refine lv_ishr hx hb dX12_four_17 ?_
  refine lv_topi (fun x_9 ex_9 => ?_)
  refine lv_i2b (v := x_9.toInt8.toInt32) hx hb dX12_four_18 rfl ?_
  refine va_bast hx hb hK hP hD hS 1 1 rfl rfl (z_in (by decide) (by decide)) dX12_four_19 (fun H locs hP hD hS => ?_)
  have hP : va_P D vwCl [(mo, .inr (12, [.int 0, .ref m1, .ref m2, .ref m3, .ref m4, .ref m5, .int 10, .int 0, .int 0, .int 0, .int 0, .long 0, .int 0, .int 0, .int 0, .int (-1), .ref m16, .ref m17, .ref m18, .ref m19, .ref m20, .ref m21, .ref m22, .ref m23, .int 0, .ref m25, .ref m26, .ref m27, .ref m28, .ref m29, .int 0, .ref m31, .ref m32, .ref m33, .int 0, .int 0, .int 0, .ref m37, .ref m38, .ref m39, .ref m40, .long 0])), (m5, .inl (k 1, 1000, .inl (upd (upd (upd fb 8 (vp_nar .byte x_1.toInt8.toInt32)) 9 (vp_nar .byte x_5.toInt8.toInt32)) 10 (vp_nar .byte x_9.toInt8.toInt32))))] H := hP
  have hD : va_D A [(mo, .inr (12, [.int 0, .ref m1, .ref m2, .ref m3, .ref m4, .ref m5, .int 10, .int 0, .int 0, .int 0, .int 0, .long 0, .int 0, .int 0, .int 0, .int (-1), .ref m16, .ref m17, .ref m18, .ref m19, .ref m20, .ref m21, .ref m22, .ref m23, .int 0, .ref m25, .ref m26, .ref m27, .ref m28, .ref m29, .int 0, .ref m31, .ref m32, .ref m33, .int 0, .int 0, .int 0, .ref m37, .ref m38, .ref m39, .ref m40, .long 0])), (m5, .inl (k 1, 1000, .inl (upd (upd (upd fb 8 (vp_nar .byte x_1.toInt8.toInt32)) 9 (vp_nar .byte x_5.toInt8.toInt32)) 10 (vp_nar .byte x_9.toInt8.toInt32))))] := hD
  refine lv_aload_n hx hb dX12_four_20 rfl (lv_at hl 1 rfl) ?_
  refine lv_dup hx hb dX12_four_21 rfl ?_
  refine va_get (D := D) (ci := 12) (v := .int 10) (C := RX12) (T := TX12) (N := 42) hx hb hts iT_X12 hown hK hP 0 rfl rfl 6 (by decide) (hts _ tw_6_59) (fun _ h9 => h9) rfl dX12_four_22 ?_
  refine lv_iconst (v := 1) hx hb dX12_four_25 (by decide) ?_
  refine lv_iadd hx hb dX12_four_26 ?_
  refine lv_topi (fun x_11 ex_11 => ?_)
  obtain rfl : x_11 = 11 := ex_11.trans (by decide)
  refine va_put (D := D) (ci := 12) (v := .int 11) (ty := tyX12 6) (C := RX12) (T := TX12) (N := 42) hx hb hts iT_X12 tyX12 tyX12_ok nmX12 hown hK hP hD hS 0 rfl rfl 6 (by decide) (hts _ tw_6_59) (fun _ h9 => h9) rfl (tyX12_ok 6 (by decide)) rfl rfl (Nat.le_of_ble_eq_true rfl) dX12_four_27 (fun H locs hP hD hS => ?_)
  have hP : va_P D vwCl [(mo, .inr (12, [.int 0, .ref m1, .ref m2, .ref m3, .ref m4, .ref m5, .int 11, .int 0, .int 0, .int 0, .int 0, .long 0, .int 0, .int 0, .int 0, .int (-1), .ref m16, .ref m17, .ref m18, .ref m19, .ref m20, .ref m21, .ref m22, .ref m23, .int 0, .ref m25, .ref m26, .ref m27, .ref m28, .ref m29, .int 0, .ref m31, .ref m32, .ref m33, .int 0, .int 0, .int 0, .ref m37, .ref m38, .ref m39, .ref m40, .long 0])), (m5, .inl (k 1, 1000, .inl (upd (upd (upd fb 8 (vp_nar .byte x_1.toInt8.toInt32)) 9 (vp_nar .byte x_5.toInt8.toInt32)) 10 (vp_nar .byte x_9.toInt8.toInt32))))] H := hP
  have hD : va_D A [(mo, .inr (12, [.int 0, .ref m1, .ref m2, .ref m3, .ref m4, .ref m5, .int 11, .int 0, .int 0, .int 0, .int 0, .long 0, .int 0, .int 0, .int 0, .int (-1), .ref m16, .ref m17, .ref m18, .ref m19, .ref m20, .ref m21, .ref m22, .ref m23, .int 0, .ref m25, .ref m26, .ref m27, .ref m28, .ref m29, .int 0, .ref m31, .ref m32, .ref m33, .int 0, .int 0, .int 0, .ref m37, .ref m38, .ref m39, .ref m40, .long 0])), (m5, .inl (k 1, 1000, .inl (upd (upd (upd fb 8 (vp_nar .byte x_1.toInt8.toInt32)) 9 (vp_nar .byte x_5.toInt8.toInt32)) 10 (vp_nar .byte x_9.toInt8.toInt32))))] := hD
  refine lv_iinc (v := 0) (lv' := [(2, .int 0), (0, .ref mo), (1, .int p0)]) hx hb dX12_four_30 hl (k := 0) rfl (by decide) (by decide) rfl (fun ls hl => ?_)
  refine lv_goto (tgt := 3) hx hb dX12_four_33 (by decide) ?_
  refine lv_iload_n hx hb dX12_four_3 rfl (lv_at hl 0 rfl) ?_
  refine lv_if_lt (tgt := 36) hx hb dX12_four_4 (by decide) (fun c9 => absurd c9 (by decide)) (fun _ => ?_)
  refine lv_aload_n hx hb dX12_four_7 rfl (lv_at hl 1 rfl) ?_
  refine va_get (D := D) (ci := 12) (v := .ref m5) (C := RX12) (T := TX12) (N := 42) hx hb hts iT_X12 hown hK hP 0 rfl rfl 5 (by decide) (hts _ tw_6_58) (fun _ h9 => h9) rfl dX12_four_8 ?_
  refine lv_aload_n hx hb dX12_four_11 rfl (lv_at hl 1 rfl) ?_
  refine va_get (D := D) (ci := 12) (v := .int 11) (C := RX12) (T := TX12) (N := 42) hx hb hts iT_X12 hown hK hP 0 rfl rfl 6 (by decide) (hts _ tw_6_59) (fun _ h9 => h9) rfl dX12_four_12 ?_
  refine lv_iload_n hx hb dX12_four_15 rfl (lv_at hl 2 rfl) ?_
  refine lv_iload_n hx hb dX12_four_16 rfl (lv_at hl 0 rfl) ?_
  refine lv_ishr hx hb dX12_four_17 ?_
  refine lv_topi (fun x_13 ex_13 => ?_)
  refine lv_i2b (v := x_13.toInt8.toInt32) hx hb dX12_four_18 rfl ?_
  refine va_bast hx hb hK hP hD hS 1 1 rfl rfl (z_in (by decide) (by decide)) dX12_four_19 (fun H locs hP hD hS => ?_)
  have hP : va_P D vwCl [(mo, .inr (12, [.int 0, .ref m1, .ref m2, .ref m3, .ref m4, .ref m5, .int 11, .int 0, .int 0, .int 0, .int 0, .long 0, .int 0, .int 0, .int 0, .int (-1), .ref m16, .ref m17, .ref m18, .ref m19, .ref m20, .ref m21, .ref m22, .ref m23, .int 0, .ref m25, .ref m26, .ref m27, .ref m28, .ref m29, .int 0, .ref m31, .ref m32, .ref m33, .int 0, .int 0, .int 0, .ref m37, .ref m38, .ref m39, .ref m40, .long 0])), (m5, .inl (k 1, 1000, .inl (upd (upd (upd (upd fb 8 (vp_nar .byte x_1.toInt8.toInt32)) 9 (vp_nar .byte x_5.toInt8.toInt32)) 10 (vp_nar .byte x_9.toInt8.toInt32)) 11 (vp_nar .byte x_13.toInt8.toInt32))))] H := hP
  have hD : va_D A [(mo, .inr (12, [.int 0, .ref m1, .ref m2, .ref m3, .ref m4, .ref m5, .int 11, .int 0, .int 0, .int 0, .int 0, .long 0, .int 0, .int 0, .int 0, .int (-1), .ref m16, .ref m17, .ref m18, .ref m19, .ref m20, .ref m21, .ref m22, .ref m23, .int 0, .ref m25, .ref m26, .ref m27, .ref m28, .ref m29, .int 0, .ref m31, .ref m32, .ref m33, .int 0, .int 0, .int 0, .ref m37, .ref m38, .ref m39, .ref m40, .long 0])), (m5, .inl (k 1, 1000, .inl (upd (upd (upd (upd fb 8 (vp_nar .byte x_1.toInt8.toInt32)) 9 (vp_nar .byte x_5.toInt8.toInt32)) 10 (vp_nar .byte x_9.toInt8.toInt32)) 11 (vp_nar .byte x_13.toInt8.toInt32))))] := hD
  refine lv_aload_n hx hb dX12_four_20 rfl (lv_at hl 1 rfl) ?_
  refine lv_dup hx hb dX12_four_21 rfl ?_
  refine va_get (D := D) (ci := 12) (v := .int 11) (C := RX12) (T := TX12) (N := 42) hx hb hts iT_X12 hown hK hP 0 rfl rfl 6 (by decide) (hts _ tw_6_59) (fun _ h9 => h9) rfl dX12_four_22 ?_
  refine lv_iconst (v := 1) hx hb dX12_four_25 (by decide) ?_
  refine lv_iadd hx hb dX12_four_26 ?_
  refine lv_topi (fun x_15 ex_15 => ?_)
  obtain rfl : x_15 = 12 := ex_15.trans (by decide)
  refine va_put (D := D) (ci := 12) (v := .int 12) (ty := tyX12 6) (C := RX12) (T := TX12) (N := 42) hx hb hts iT_X12 tyX12 tyX12_ok nmX12 hown hK hP hD hS 0 rfl rfl 6 (by decide) (hts _ tw_6_59) (fun _ h9 => h9) rfl (tyX12_ok 6 (by decide)) rfl rfl (Nat.le_of_ble_eq_true rfl) dX12_four_27 (fun H locs hP hD hS => ?_)
  have hP : va_P D vwCl [(mo, .inr (12, [.int 0, .ref m1, .ref m2, .ref m3, .ref m4, .ref m5, .int 12, .int 0, .int 0, .int 0, .int 0, .long 0, .int 0, .int 0, .int 0, .int (-1), .ref m16, .ref m17, .ref m18, .ref m19, .ref m20, .ref m21, .ref m22, .ref m23, .int 0, .ref m25, .ref m26, .ref m27, .ref m28, .ref m29, .int 0, .ref m31, .ref m32, .ref m33, .int 0, .int 0, .int 0, .ref m37, .ref m38, .ref m39, .ref m40, .long 0])), (m5, .inl (k 1, 1000, .inl (upd (upd (upd (upd fb 8 (vp_nar .byte x_1.toInt8.toInt32)) 9 (vp_nar .byte x_5.toInt8.toInt32)) 10 (vp_nar .byte x_9.toInt8.toInt32)) 11 (vp_nar .byte x_13.toInt8.toInt32))))] H := hP
  have hD : va_D A [(mo, .inr (12, [.int 0, .ref m1, .ref m2, .ref m3, .ref m4, .ref m5, .int 12, .int 0, .int 0, .int 0, .int 0, .long 0, .int 0, .int 0, .int 0, .int (-1), .ref m16, .ref m17, .ref m18, .ref m19, .ref m20, .ref m21, .ref m22, .ref m23, .int 0, .ref m25, .ref m26, .ref m27, .ref m28, .ref m29, .int 0, .ref m31, .ref m32, .ref m33, .int 0, .int 0, .int 0, .ref m37, .ref m38, .ref m39, .ref m40, .long 0])), (m5, .inl (k 1, 1000, .inl (upd (upd (upd (upd fb 8 (vp_nar .byte x_1.toInt8.toInt32)) 9 (vp_nar .byte x_5.toInt8.toInt32)) 10 (vp_nar .byte x_9.toInt8.toInt32)) 11 (vp_nar .byte x_13.toInt8.toInt32))))] := hD
  refine lv_iinc (v := (-8)) (lv' := [(2, .int (-8)), (0, .ref mo), (1, .int p0)]) hx hb dX12_four_30 hl (k := 0) rfl (by decide) (by decide) rfl (fun ls hl => ?_)
  refine lv_goto (tgt := 3) hx hb dX12_four_33 (by decide) ?_
  refine lv_iload_n hx hb dX12_four_3 rfl (lv_at hl 0 rfl) ?_
  refine lv_if_lt (tgt := 36) hx hb dX12_four_4 (by decide) (fun _ => ?_) (fun c9 => absurd c9 (by decide))
  have hP9 := hP.sub (ws' := [(mo, .inr (12, [.int 0, .ref m1, .ref m2, .ref m3, .ref m4, .ref m5, .int 12, .int 0, .int 0, .int 0, .int 0, .long 0, .int 0, .int 0, .int 0, .int (-1), .ref m16, .ref m17, .ref m18, .ref m19, .ref m20, .ref m21, .ref m22, .ref m23, .int 0, .ref m25, .ref m26, .ref m27, .ref m28, .ref m29, .int 0, .ref m31, .ref m32, .ref m33, .int 0, .int 0, .int 0, .ref m37, .ref m38, .ref m39, .ref m40, .long 0])), (m5, .inl (k 1, 1000, .inl (upd (upd (upd (upd fb 8 (vp_nar .byte x_1.toInt8.toInt32)) 9 (vp_nar .byte x_5.toInt8.toInt32)) 10 (vp_nar .byte x_9.toInt8.toInt32)) 11 (vp_nar .byte x_13.toInt8.toInt32))))]) [0, 1] rfl
  have hD9 := hD.sub (ws' := [(mo, .inr (12, [.int 0, .ref m1, .ref m2, .ref m3, .ref m4, .ref m5, .int 12, .int 0, .int 0, .int 0, .int 0, .long 0, .int 0, .int 0, .int 0, .int (-1), .ref m16, .ref m17, .ref m18, .ref m19, .ref m20, .ref m21, .ref m22, .ref m23, .int 0, .ref m25, .ref m26, .ref m27, .ref m28, .ref m29, .int 0, .ref m31, .ref m32, .ref m33, .int 0, .int 0, .int 0, .ref m37, .ref m38, .ref m39, .ref m40, .long 0])), (m5, .inl (k 1, 1000, .inl (upd (upd (upd (upd fb 8 (vp_nar .byte x_1.toInt8.toInt32)) 9 (vp_nar .byte x_5.toInt8.toInt32)) 10 (vp_nar .byte x_9.toInt8.toInt32)) 11 (vp_nar .byte x_13.toInt8.toInt32))))]) [0, 1] (by decide) rfl
  exact W.vret hx hb hr (fun tZ ht hW => ⟨⟨upd (upd (upd (upd fb 8 (vp_nar .byte x_1.toInt8.toInt32)) 9 (vp_nar .byte x_5.toInt8.toInt32)) 10 (vp_nar .byte x_9.toInt8.toInt32)) 11 (vp_nar .byte x_13.toInt8.toInt32), rfl, trivial, by rw [ht]; exact hP9, va_K.moved hW.alike hK, hD9⟩, hS.F ht⟩) hS.2.2 dX12_four_36
set_option maxHeartbeats 4000000 in
set_option maxRecDepth 100000 in
theorem c_X12_four_12 (l : Launch) (D : va_G) (k : Nat → ClassId) (mo : Nat) (m1 : Nat) (m2 : Nat) (m3 : Nat) (m4 : Nat) (m5 : Nat) (m16 : Nat) (m17 : Nat) (m18 : Nat) (m19 : Nat) (m20 : Nat) (m21 : Nat) (m22 : Nat) (m23 : Nat) (m25 : Nat) (m26 : Nat) (m27 : Nat) (m28 : Nat) (m29 : Nat) (m31 : Nat) (m32 : Nat) (m33 : Nat) (m37 : Nat) (m38 : Nat) (m39 : Nat) (m40 : Nat) (fb : Nat → Int32) (p0 : Int32) (sz : Nat) : Met l yX12_four (ww yX12_four cX12_four 3 none) ({ frames := 0, cells := 0, slots := 0, locals := 0 }) (Pre0 D k [(mo, .inr (12, [.int 0, .ref m1, .ref m2, .ref m3, .ref m4, .ref m5, .int 12, .int 0, .int 0, .int 0, .int 0, .long 0, .int 0, .int 0, .int 0, .int (-1), .ref m16, .ref m17, .ref m18, .ref m19, .ref m20, .ref m21, .ref m22, .ref m23, .int 0, .ref m25, .ref m26, .ref m27, .ref m28, .ref m29, .int 0, .ref m31, .ref m32, .ref m33, .int 0, .int 0, .int 0, .ref m37, .ref m38, .ref m39, .ref m40, .long 0])), (m5, .inl (k 1, 1000, .inl fb))] sz [.ref mo, .int p0]) (va_Qv (fun (f2 : (Nat → Int32)) => True) (fun (f2 : (Nat → Int32)) tZ => Bw D k (va_A [(mo, .inr (12, [.int 0, .ref m1, .ref m2, .ref m3, .ref m4, .ref m5, .int 12, .int 0, .int 0, .int 0, .int 0, .long 0, .int 0, .int 0, .int 0, .int (-1), .ref m16, .ref m17, .ref m18, .ref m19, .ref m20, .ref m21, .ref m22, .ref m23, .int 0, .ref m25, .ref m26, .ref m27, .ref m28, .ref m29, .int 0, .ref m31, .ref m32, .ref m33, .int 0, .int 0, .int 0, .ref m37, .ref m38, .ref m39, .ref m40, .long 0])), (m5, .inl (k 1, 1000, .inl fb))] sz) [(mo, .inr (12, [.int 0, .ref m1, .ref m2, .ref m3, .ref m4, .ref m5, .int 16, .int 0, .int 0, .int 0, .int 0, .long 0, .int 0, .int 0, .int 0, .int (-1), .ref m16, .ref m17, .ref m18, .ref m19, .ref m20, .ref m21, .ref m22, .ref m23, .int 0, .ref m25, .ref m26, .ref m27, .ref m28, .ref m29, .int 0, .ref m31, .ref m32, .ref m33, .int 0, .int 0, .int 0, .ref m37, .ref m38, .ref m39, .ref m40, .long 0])), (m5, .inl (k 1, 1000, .inl f2))] tZ) (va_A [(mo, .inr (12, [.int 0, .ref m1, .ref m2, .ref m3, .ref m4, .ref m5, .int 12, .int 0, .int 0, .int 0, .int 0, .long 0, .int 0, .int 0, .int 0, .int (-1), .ref m16, .ref m17, .ref m18, .ref m19, .ref m20, .ref m21, .ref m22, .ref m23, .int 0, .ref m25, .ref m26, .ref m27, .ref m28, .ref m29, .int 0, .ref m31, .ref m32, .ref m33, .int 0, .int 0, .int 0, .ref m37, .ref m38, .ref m39, .ref m40, .long 0])), (m5, .inl (k 1, 1000, .inl fb))] sz)) 0 0 (va_A [(mo, .inr (12, [.int 0, .ref m1, .ref m2, .ref m3, .ref m4, .ref m5, .int 12, .int 0, .int 0, .int 0, .int 0, .long 0, .int 0, .int 0, .int 0, .int (-1), .ref m16, .ref m17, .ref m18, .ref m19, .ref m20, .ref m21, .ref m22, .ref m23, .int 0, .ref m25, .ref m26, .ref m27, .ref m28, .ref m29, .int 0, .ref m31, .ref m32, .ref m33, .int 0, .int 0, .int 0, .ref m37, .ref m38, .ref m39, .ref m40, .long 0])), (m5, .inl (k 1, 1000, .inl fb))] sz) := by
  refine Met.ofW (cc := cX12_four) (maxL := 3) (ret := none) (by decide +kernel) rfl ?_
  intro p e s m args below meth c s₁ B hml hv
  obtain ⟨rfl, hsz, hP, hK, hD0, hN⟩ := hv
  have hx := B.exec
  have hb := B.bytes
  have hr := B.returns
  have hts : ∀ w ∈ TT, w.before _ s = true := fun w h => atoms_spec (ws := ww yX12_four cX12_four 3 none) B.pre w (List.mem_cons_of_mem _ h)
  have hown : s.vm.findClass RX12 = some m.cls := findClass_of_methodNamed B.named
  have hlocks := B.notSynchronized
  subst hsz
  have hD := hD0.self (sz := s.heap.size)
  generalize hAe : va_A [(mo, .inr (12, [.int 0, .ref m1, .ref m2, .ref m3, .ref m4, .ref m5, .int 12, .int 0, .int 0, .int 0, .int 0, .long 0, .int 0, .int 0, .int 0, .int (-1), .ref m16, .ref m17, .ref m18, .ref m19, .ref m20, .ref m21, .ref m22, .ref m23, .int 0, .ref m25, .ref m26, .ref m27, .ref m28, .ref m29, .int 0, .ref m31, .ref m32, .ref m33, .int 0, .int 0, .int 0, .ref m37, .ref m38, .ref m39, .ref m40, .long 0])), (m5, .inl (k 1, 1000, .inl fb))] s.heap.size = A at hD ⊢
  have hA : ∀ q : Nat, s.heap.size ≤ q → A q := fun q h => by rw [← hAe]; exact Or.inr h
  have hS : va_S A s.heap s.heap [] := va_S.rf
  have hl := lv_entry ([.ref mo, .int p0]) (n := 3) (Nat.le_of_ble_eq_true rfl)
  rw [lg_entry_eq]
  generalize (lg_sl ([.ref mo, .int p0]) ++ List.replicate (3 - (lg_sl ([.ref mo, .int p0])).length) Slot.unset).toArray = ls at hl ⊢
  have hl : lv_has ls 3 [(0, .ref mo), (1, .int p0)] := hl
  refine lv_bipush (v := 24) hx hb dX12_four_0 (by decide) ?_
  refine lv_istore_n (lv' := [(2, .int 24), (0, .ref mo), (1, .int p0)]) hx hb dX12_four_2 rfl hl (by decide) rfl (fun ls hl => ?_)
  refine lv_iload_n hx hb dX12_four_3 rfl (lv_at hl 0 rfl) ?_
  refine lv_if_lt (tgt := 36) hx hb dX12_four_4 (by decide) (fun c9 => absurd c9 (by decide)) (fun _ => ?_)
  refine lv_aload_n hx hb dX12_four_7 rfl (lv_at hl 1 rfl) ?_
  refine va_get (D := D) (ci := 12) (v := .ref m5) (C := RX12) (T := TX12) (N := 42) hx hb hts iT_X12 hown hK hP 0 rfl rfl 5 (by decide) (hts _ tw_6_58) (fun _ h9 => h9) rfl dX12_four_8 ?_
  refine lv_aload_n hx hb dX12_four_11 rfl (lv_at hl 1 rfl) ?_
  refine va_get (D := D) (ci := 12) (v := .int 12) (C := RX12) (T := TX12) (N := 42) hx hb hts iT_X12 hown hK hP 0 rfl rfl 6 (by decide) (hts _ tw_6_59) (fun _ h9 => h9) rfl dX12_four_12 ?_
  refine lv_iload_n hx hb dX12_four_15 rfl (lv_at hl 2 rfl) ?_
  refine lv_iload_n hx hb dX12_four_16 rfl (lv_at hl 0 rfl) ?_
  refine lv_ishr hx hb dX12_four_17 ?_
  refine lv_topi (fun x_1 ex_1 => ?_)
  refine lv_i2b (v := x_1.toInt8.toInt32) hx hb dX12_four_18 rfl ?_
  refine va_bast hx hb hK hP hD hS 1 1 rfl rfl (z_in (by decide) (by decide)) dX12_four_19 (fun H locs hP hD hS => ?_)
  have hP : va_P D vwCl [(mo, .inr (12, [.int 0, .ref m1, .ref m2, .ref m3, .ref m4, .ref m5, .int 12, .int 0, .int 0, .int 0, .int 0, .long 0, .int 0, .int 0, .int 0, .int (-1), .ref m16, .ref m17, .ref m18, .ref m19, .ref m20, .ref m21, .ref m22, .ref m23, .int 0, .ref m25, .ref m26, .ref m27, .ref m28, .ref m29, .int 0, .ref m31, .ref m32, .ref m33, .int 0, .int 0, .int 0, .ref m37, .ref m38, .ref m39, .ref m40, .long 0])), (m5, .inl (k 1, 1000, .inl (upd fb 12 (vp_nar .byte x_1.toInt8.toInt32))))] H := hP
  have hD : va_D A [(mo, .inr (12, [.int 0, .ref m1, .ref m2, .ref m3, .ref m4, .ref m5, .int 12, .int 0, .int 0, .int 0, .int 0, .long 0, .int 0, .int 0, .int 0, .int (-1), .ref m16, .ref m17, .ref m18, .ref m19, .ref m20, .ref m21, .ref m22, .ref m23, .int 0, .ref m25, .ref m26, .ref m27, .ref m28, .ref m29, .int 0, .ref m31, .ref m32, .ref m33, .int 0, .int 0, .int 0, .ref m37, .ref m38, .ref m39, .ref m40, .long 0])), (m5, .inl (k 1, 1000, .inl (upd fb 12 (vp_nar .byte x_1.toInt8.toInt32))))] := hD
  refine lv_aload_n hx hb dX12_four_20 rfl (lv_at hl 1 rfl) ?_
  refine lv_dup hx hb dX12_four_21 rfl ?_
  refine va_get (D := D) (ci := 12) (v := .int 12) (C := RX12) (T := TX12) (N := 42) hx hb hts iT_X12 hown hK hP 0 rfl rfl 6 (by decide) (hts _ tw_6_59) (fun _ h9 => h9) rfl dX12_four_22 ?_
  refine lv_iconst (v := 1) hx hb dX12_four_25 (by decide) ?_
  refine lv_iadd hx hb dX12_four_26 ?_
  refine lv_topi (fun x_3 ex_3 => ?_)
  obtain rfl : x_3 = 13 := ex_3.trans (by decide)
  refine va_put (D := D) (ci := 12) (v := .int 13) (ty := tyX12 6) (C := RX12) (T := TX12) (N := 42) hx hb hts iT_X12 tyX12 tyX12_ok nmX12 hown hK hP hD hS 0 rfl rfl 6 (by decide) (hts _ tw_6_59) (fun _ h9 => h9) rfl (tyX12_ok 6 (by decide)) rfl rfl (Nat.le_of_ble_eq_true rfl) dX12_four_27 (fun H locs hP hD hS => ?_)
  have hP : va_P D vwCl [(mo, .inr (12, [.int 0, .ref m1, .ref m2, .ref m3, .ref m4, .ref m5, .int 13, .int 0, .int 0, .int 0, .int 0, .long 0, .int 0, .int 0, .int 0, .int (-1), .ref m16, .ref m17, .ref m18, .ref m19, .ref m20, .ref m21, .ref m22, .ref m23, .int 0, .ref m25, .ref m26, .ref m27, .ref m28, .ref m29, .int 0, .ref m31, .ref m32, .ref m33, .int 0, .int 0, .int 0, .ref m37, .ref m38, .ref m39, .ref m40, .long 0])), (m5, .inl (k 1, 1000, .inl (upd fb 12 (vp_nar .byte x_1.toInt8.toInt32))))] H := hP
  have hD : va_D A [(mo, .inr (12, [.int 0, .ref m1, .ref m2, .ref m3, .ref m4, .ref m5, .int 13, .int 0, .int 0, .int 0, .int 0, .long 0, .int 0, .int 0, .int 0, .int (-1), .ref m16, .ref m17, .ref m18, .ref m19, .ref m20, .ref m21, .ref m22, .ref m23, .int 0, .ref m25, .ref m26, .ref m27, .ref m28, .ref m29, .int 0, .ref m31, .ref m32, .ref m33, .int 0, .int 0, .int 0, .ref m37, .ref m38, .ref m39, .ref m40, .long 0])), (m5, .inl (k 1, 1000, .inl (upd fb 12 (vp_nar .byte x_1.toInt8.toInt32))))] := hD
  refine lv_iinc (v := 16) (lv' := [(2, .int 16), (0, .ref mo), (1, .int p0)]) hx hb dX12_four_30 hl (k := 0) rfl (by decide) (by decide) rfl (fun ls hl => ?_)
  refine lv_goto (tgt := 3) hx hb dX12_four_33 (by decide) ?_
  refine lv_iload_n hx hb dX12_four_3 rfl (lv_at hl 0 rfl) ?_
  refine lv_if_lt (tgt := 36) hx hb dX12_four_4 (by decide) (fun c9 => absurd c9 (by decide)) (fun _ => ?_)
  refine lv_aload_n hx hb dX12_four_7 rfl (lv_at hl 1 rfl) ?_
  refine va_get (D := D) (ci := 12) (v := .ref m5) (C := RX12) (T := TX12) (N := 42) hx hb hts iT_X12 hown hK hP 0 rfl rfl 5 (by decide) (hts _ tw_6_58) (fun _ h9 => h9) rfl dX12_four_8 ?_
  refine lv_aload_n hx hb dX12_four_11 rfl (lv_at hl 1 rfl) ?_
  refine va_get (D := D) (ci := 12) (v := .int 13) (C := RX12) (T := TX12) (N := 42) hx hb hts iT_X12 hown hK hP 0 rfl rfl 6 (by decide) (hts _ tw_6_59) (fun _ h9 => h9) rfl dX12_four_12 ?_
  refine lv_iload_n hx hb dX12_four_15 rfl (lv_at hl 2 rfl) ?_
  refine lv_iload_n hx hb dX12_four_16 rfl (lv_at hl 0 rfl) ?_
  refine lv_ishr hx hb dX12_four_17 ?_
  refine lv_topi (fun x_5 ex_5 => ?_)
  refine lv_i2b (v := x_5.toInt8.toInt32) hx hb dX12_four_18 rfl ?_
  refine va_bast hx hb hK hP hD hS 1 1 rfl rfl (z_in (by decide) (by decide)) dX12_four_19 (fun H locs hP hD hS => ?_)
  have hP : va_P D vwCl [(mo, .inr (12, [.int 0, .ref m1, .ref m2, .ref m3, .ref m4, .ref m5, .int 13, .int 0, .int 0, .int 0, .int 0, .long 0, .int 0, .int 0, .int 0, .int (-1), .ref m16, .ref m17, .ref m18, .ref m19, .ref m20, .ref m21, .ref m22, .ref m23, .int 0, .ref m25, .ref m26, .ref m27, .ref m28, .ref m29, .int 0, .ref m31, .ref m32, .ref m33, .int 0, .int 0, .int 0, .ref m37, .ref m38, .ref m39, .ref m40, .long 0])), (m5, .inl (k 1, 1000, .inl (upd (upd fb 12 (vp_nar .byte x_1.toInt8.toInt32)) 13 (vp_nar .byte x_5.toInt8.toInt32))))] H := hP
  have hD : va_D A [(mo, .inr (12, [.int 0, .ref m1, .ref m2, .ref m3, .ref m4, .ref m5, .int 13, .int 0, .int 0, .int 0, .int 0, .long 0, .int 0, .int 0, .int 0, .int (-1), .ref m16, .ref m17, .ref m18, .ref m19, .ref m20, .ref m21, .ref m22, .ref m23, .int 0, .ref m25, .ref m26, .ref m27, .ref m28, .ref m29, .int 0, .ref m31, .ref m32, .ref m33, .int 0, .int 0, .int 0, .ref m37, .ref m38, .ref m39, .ref m40, .long 0])), (m5, .inl (k 1, 1000, .inl (upd (upd fb 12 (vp_nar .byte x_1.toInt8.toInt32)) 13 (vp_nar .byte x_5.toInt8.toInt32))))] := hD
  refine lv_aload_n hx hb dX12_four_20 rfl (lv_at hl 1 rfl) ?_
  refine lv_dup hx hb dX12_four_21 rfl ?_
  refine va_get (D := D) (ci := 12) (v := .int 13) (C := RX12) (T := TX12) (N := 42) hx hb hts iT_X12 hown hK hP 0 rfl rfl 6 (by decide) (hts _ tw_6_59) (fun _ h9 => h9) rfl dX12_four_22 ?_
  refine lv_iconst (v := 1) hx hb dX12_four_25 (by decide) ?_
  refine lv_iadd hx hb dX12_four_26 ?_
  refine lv_topi (fun x_7 ex_7 => ?_)
  obtain rfl : x_7 = 14 := ex_7.trans (by decide)
  refine va_put (D := D) (ci := 12) (v := .int 14) (ty := tyX12 6) (C := RX12) (T := TX12) (N := 42) hx hb hts iT_X12 tyX12 tyX12_ok nmX12 hown hK hP hD hS 0 rfl rfl 6 (by decide) (hts _ tw_6_59) (fun _ h9 => h9) rfl (tyX12_ok 6 (by decide)) rfl rfl (Nat.le_of_ble_eq_true rfl) dX12_four_27 (fun H locs hP hD hS => ?_)
  have hP : va_P D vwCl [(mo, .inr (12, [.int 0, .ref m1, .ref m2, .ref m3, .ref m4, .ref m5, .int 14, .int 0, .int 0, .int 0, .int 0, .long 0, .int 0, .int 0, .int 0, .int (-1), .ref m16, .ref m17, .ref m18, .ref m19, .ref m20, .ref m21, .ref m22, .ref m23, .int 0, .ref m25, .ref m26, .ref m27, .ref m28, .ref m29, .int 0, .ref m31, .ref m32, .ref m33, .int 0, .int 0, .int 0, .ref m37, .ref m38, .ref m39, .ref m40, .long 0])), (m5, .inl (k 1, 1000, .inl (upd (upd fb 12 (vp_nar .byte x_1.toInt8.toInt32)) 13 (vp_nar .byte x_5.toInt8.toInt32))))] H := hP
  have hD : va_D A [(mo, .inr (12, [.int 0, .ref m1, .ref m2, .ref m3, .ref m4, .ref m5, .int 14, .int 0, .int 0, .int 0, .int 0, .long 0, .int 0, .int 0, .int 0, .int (-1), .ref m16, .ref m17, .ref m18, .ref m19, .ref m20, .ref m21, .ref m22, .ref m23, .int 0, .ref m25, .ref m26, .ref m27, .ref m28, .ref m29, .int 0, .ref m31, .ref m32, .ref m33, .int 0, .int 0, .int 0, .ref m37, .ref m38, .ref m39, .ref m40, .long 0])), (m5, .inl (k 1, 1000, .inl (upd (upd fb 12 (vp_nar .byte x_1.toInt8.toInt32)) 13 (vp_nar .byte x_5.toInt8.toInt32))))] := hD
  refine lv_iinc (v := 8) (lv' := [(2, .int 8), (0, .ref mo), (1, .int p0)]) hx hb dX12_four_30 hl (k := 0) rfl (by decide) (by decide) rfl (fun ls hl => ?_)
  refine lv_goto (tgt := 3) hx hb dX12_four_33 (by decide) ?_
  refine lv_iload_n hx hb dX12_four_3 rfl (lv_at hl 0 rfl) ?_
  refine lv_if_lt (tgt := 36) hx hb dX12_four_4 (by decide) (fun c9 => absurd c9 (by decide)) (fun _ => ?_)
  refine lv_aload_n hx hb dX12_four_7 rfl (lv_at hl 1 rfl) ?_
  refine va_get (D := D) (ci := 12) (v := .ref m5) (C := RX12) (T := TX12) (N := 42) hx hb hts iT_X12 hown hK hP 0 rfl rfl 5 (by decide) (hts _ tw_6_58) (fun _ h9 => h9) rfl dX12_four_8 ?_
  refine lv_aload_n hx hb dX12_four_11 rfl (lv_at hl 1 rfl) ?_
  refine va_get (D := D) (ci := 12) (v := .int 14) (C := RX12) (T := TX12) (N := 42) hx hb hts iT_X12 hown hK hP 0 rfl rfl 6 (by decide) (hts _ tw_6_59) (fun _ h9 => h9) rfl dX12_four_12 ?_
  refine lv_iload_n hx hb dX12_four_15 rfl (lv_at hl 2 rfl) ?_
  refine lv_iload_n hx hb dX12_four_16 rfl (lv_at hl 0 rfl) ?_
  refine lv_ishr hx hb dX12_four_17 ?_
  refine lv_topi (fun x_9 ex_9 => ?_)
  refine lv_i2b (v := x_9.toInt8.toInt32) hx hb dX12_four_18 rfl ?_
  refine va_bast hx hb hK hP hD hS 1 1 rfl rfl (z_in (by decide) (by decide)) dX12_four_19 (fun H locs hP hD hS => ?_)
  have hP : va_P D vwCl [(mo, .inr (12, [.int 0, .ref m1, .ref m2, .ref m3, .ref m4, .ref m5, .int 14, .int 0, .int 0, .int 0, .int 0, .long 0, .int 0, .int 0, .int 0, .int (-1), .ref m16, .ref m17, .ref m18, .ref m19, .ref m20, .ref m21, .ref m22, .ref m23, .int 0, .ref m25, .ref m26, .ref m27, .ref m28, .ref m29, .int 0, .ref m31, .ref m32, .ref m33, .int 0, .int 0, .int 0, .ref m37, .ref m38, .ref m39, .ref m40, .long 0])), (m5, .inl (k 1, 1000, .inl (upd (upd (upd fb 12 (vp_nar .byte x_1.toInt8.toInt32)) 13 (vp_nar .byte x_5.toInt8.toInt32)) 14 (vp_nar .byte x_9.toInt8.toInt32))))] H := hP
  have hD : va_D A [(mo, .inr (12, [.int 0, .ref m1, .ref m2, .ref m3, .ref m4, .ref m5, .int 14, .int 0, .int 0, .int 0, .int 0, .long 0, .int 0, .int 0, .int 0, .int (-1), .ref m16, .ref m17, .ref m18, .ref m19, .ref m20, .ref m21, .ref m22, .ref m23, .int 0, .ref m25, .ref m26, .ref m27, .ref m28, .ref m29, .int 0, .ref m31, .ref m32, .ref m33, .int 0, .int 0, .int 0, .ref m37, .ref m38, .ref m39, .ref m40, .long 0])), (m5, .inl (k 1, 1000, .inl (upd (upd (upd fb 12 (vp_nar .byte x_1.toInt8.toInt32)) 13 (vp_nar .byte x_5.toInt8.toInt32)) 14 (vp_nar .byte x_9.toInt8.toInt32))))] := hD
  refine lv_aload_n hx hb dX12_four_20 rfl (lv_at hl 1 rfl) ?_
  refine lv_dup hx hb dX12_four_21 rfl ?_
  refine va_get (D := D) (ci := 12) (v := .int 14) (C := RX12) (T := TX12) (N := 42) hx hb hts iT_X12 hown hK hP 0 rfl rfl 6 (by decide) (hts _ tw_6_59) (fun _ h9 => h9) rfl dX12_four_22 ?_
  refine lv_iconst (v := 1) hx hb dX12_four_25 (by decide) ?_
  refine lv_iadd hx hb dX12_four_26 ?_
  refine lv_topi (fun x_11 ex_11 => ?_)
  obtain rfl : x_11 = 15 := ex_11.trans (by decide)
  refine va_put (D := D) (ci := 12) (v := .int 15) (ty := tyX12 6) (C := RX12) (T := TX12) (N := 42) hx hb hts iT_X12 tyX12 tyX12_ok nmX12 hown hK hP hD hS 0 rfl rfl 6 (by decide) (hts _ tw_6_59) (fun _ h9 => h9) rfl (tyX12_ok 6 (by decide)) rfl rfl (Nat.le_of_ble_eq_true rfl) dX12_four_27 (fun H locs hP hD hS => ?_)
  have hP : va_P D vwCl [(mo, .inr (12, [.int 0, .ref m1, .ref m2, .ref m3, .ref m4, .ref m5, .int 15, .int 0, .int 0, .int 0, .int 0, .long 0, .int 0, .int 0, .int 0, .int (-1), .ref m16, .ref m17, .ref m18, .ref m19, .ref m20, .ref m21, .ref m22, .ref m23, .int 0, .ref m25, .ref m26, .ref m27, .ref m28, .ref m29, .int 0, .ref m31, .ref m32, .ref m33, .int 0, .int 0, .int 0, .ref m37, .ref m38, .ref m39, .ref m40, .long 0])), (m5, .inl (k 1, 1000, .inl (upd (upd (upd fb 12 (vp_nar .byte x_1.toInt8.toInt32)) 13 (vp_nar .byte x_5.toInt8.toInt32)) 14 (vp_nar .byte x_9.toInt8.toInt32))))] H := hP
  have hD : va_D A [(mo, .inr (12, [.int 0, .ref m1, .ref m2, .ref m3, .ref m4, .ref m5, .int 15, .int 0, .int 0, .int 0, .int 0, .long 0, .int 0, .int 0, .int 0, .int (-1), .ref m16, .ref m17, .ref m18, .ref m19, .ref m20, .ref m21, .ref m22, .ref m23, .int 0, .ref m25, .ref m26, .ref m27, .ref m28, .ref m29, .int 0, .ref m31, .ref m32, .ref m33, .int 0, .int 0, .int 0, .ref m37, .ref m38, .ref m39, .ref m40, .long 0])), (m5, .inl (k 1, 1000, .inl (upd (upd (upd fb 12 (vp_nar .byte x_1.toInt8.toInt32)) 13 (vp_nar .byte x_5.toInt8.toInt32)) 14 (vp_nar .byte x_9.toInt8.toInt32))))] := hD
  refine lv_iinc (v := 0) (lv' := [(2, .int 0), (0, .ref mo), (1, .int p0)]) hx hb dX12_four_30 hl (k := 0) rfl (by decide) (by decide) rfl (fun ls hl => ?_)
  refine lv_goto (tgt := 3) hx hb dX12_four_33 (by decide) ?_
  refine lv_iload_n hx hb dX12_four_3 rfl (lv_at hl 0 rfl) ?_
  refine lv_if_lt (tgt := 36) hx hb dX12_four_4 (by decide) (fun c9 => absurd c9 (by decide)) (fun _ => ?_)
  refine lv_aload_n hx hb dX12_four_7 rfl (lv_at hl 1 rfl) ?_
  refine va_get (D := D) (ci := 12) (v := .ref m5) (C := RX12) (T := TX12) (N := 42) hx hb hts iT_X12 hown hK hP 0 rfl rfl 5 (by decide) (hts _ tw_6_58) (fun _ h9 => h9) rfl dX12_four_8 ?_
  refine lv_aload_n hx hb dX12_four_11 rfl (lv_at hl 1 rfl) ?_
  refine va_get (D := D) (ci := 12) (v := .int 15) (C := RX12) (T := TX12) (N := 42) hx hb hts iT_X12 hown hK hP 0 rfl rfl 6 (by decide) (hts _ tw_6_59) (fun _ h9 => h9) rfl dX12_four_12 ?_
  refine lv_iload_n hx hb dX12_four_15 rfl (lv_at hl 2 rfl) ?_
  refine lv_iload_n hx hb dX12_four_16 rfl (lv_at hl 0 rfl) ?_
  refine lv_ishr hx hb dX12_four_17 ?_
  refine lv_topi (fun x_13 ex_13 => ?_)
  refine lv_i2b (v := x_13.toInt8.toInt32) hx hb dX12_four_18 rfl ?_
  refine va_bast hx hb hK hP hD hS 1 1 rfl rfl (z_in (by decide) (by decide)) dX12_four_19 (fun H locs hP hD hS => ?_)
  have hP : va_P D vwCl [(mo, .inr (12, [.int 0, .ref m1, .ref m2, .ref m3, .ref m4, .ref m5, .int 15, .int 0, .int 0, .int 0, .int 0, .long 0, .int 0, .int 0, .int 0, .int (-1), .ref m16, .ref m17, .ref m18, .ref m19, .ref m20, .ref m21, .ref m22, .ref m23, .int 0, .ref m25, .ref m26, .ref m27, .ref m28, .ref m29, .int 0, .ref m31, .ref m32, .ref m33, .int 0, .int 0, .int 0, .ref m37, .ref m38, .ref m39, .ref m40, .long 0])), (m5, .inl (k 1, 1000, .inl (upd (upd (upd (upd fb 12 (vp_nar .byte x_1.toInt8.toInt32)) 13 (vp_nar .byte x_5.toInt8.toInt32)) 14 (vp_nar .byte x_9.toInt8.toInt32)) 15 (vp_nar .byte x_13.toInt8.toInt32))))] H := hP
  have hD : va_D A [(mo, .inr (12, [.int 0, .ref m1, .ref m2, .ref m3, .ref m4, .ref m5, .int 15, .int 0, .int 0, .int 0, .int 0, .long 0, .int 0, .int 0, .int 0, .int (-1), .ref m16, .ref m17, .ref m18, .ref m19, .ref m20, .ref m21, .ref m22, .ref m23, .int 0, .ref m25, .ref m26, .ref m27, .ref m28, .ref m29, .int 0, .ref m31, .ref m32, .ref m33, .int 0, .int 0, .int 0, .ref m37, .ref m38, .ref m39, .ref m40, .long 0])), (m5, .inl (k 1, 1000, .inl (upd (upd (upd (upd fb 12 (vp_nar .byte x_1.toInt8.toInt32)) 13 (vp_nar .byte x_5.toInt8.toInt32)) 14 (vp_nar .byte x_9.toInt8.toInt32)) 15 (vp_nar .byte x_13.toInt8.toInt32))))] := hD
  refine lv_aload_n hx hb dX12_four_20 rfl (lv_at hl 1 rfl) ?_
  refine lv_dup hx hb dX12_four_21 rfl ?_
  refine va_get (D := D) (ci := 12) (v := .int 15) (C := RX12) (T := TX12) (N := 42) hx hb hts iT_X12 hown hK hP 0 rfl rfl 6 (by decide) (hts _ tw_6_59) (fun _ h9 => h9) rfl dX12_four_22 ?_
  refine lv_iconst (v := 1) hx hb dX12_four_25 (by decide) ?_
  refine lv_iadd hx hb dX12_four_26 ?_
  refine lv_topi (fun x_15 ex_15 => ?_)
  obtain rfl : x_15 = 16 := ex_15.trans (by decide)
  refine va_put (D := D) (ci := 12) (v := .int 16) (ty := tyX12 6) (C := RX12) (T := TX12) (N := 42) hx hb hts iT_X12 tyX12 tyX12_ok nmX12 hown hK hP hD hS 0 rfl rfl 6 (by decide) (hts _ tw_6_59) (fun _ h9 => h9) rfl (tyX12_ok 6 (by decide)) rfl rfl (Nat.le_of_ble_eq_true rfl) dX12_four_27 (fun H locs hP hD hS => ?_)
  have hP : va_P D vwCl [(mo, .inr (12, [.int 0, .ref m1, .ref m2, .ref m3, .ref m4, .ref m5, .int 16, .int 0, .int 0, .int 0, .int 0, .long 0, .int 0, .int 0, .int 0, .int (-1), .ref m16, .ref m17, .ref m18, .ref m19, .ref m20, .ref m21, .ref m22, .ref m23, .int 0, .ref m25, .ref m26, .ref m27, .ref m28, .ref m29, .int 0, .ref m31, .ref m32, .ref m33, .int 0, .int 0, .int 0, .ref m37, .ref m38, .ref m39, .ref m40, .long 0])), (m5, .inl (k 1, 1000, .inl (upd (upd (upd (upd fb 12 (vp_nar .byte x_1.toInt8.toInt32)) 13 (vp_nar .byte x_5.toInt8.toInt32)) 14 (vp_nar .byte x_9.toInt8.toInt32)) 15 (vp_nar .byte x_13.toInt8.toInt32))))] H := hP
  have hD : va_D A [(mo, .inr (12, [.int 0, .ref m1, .ref m2, .ref m3, .ref m4, .ref m5, .int 16, .int 0, .int 0, .int 0, .int 0, .long 0, .int 0, .int 0, .int 0, .int (-1), .ref m16, .ref m17, .ref m18, .ref m19, .ref m20, .ref m21, .ref m22, .ref m23, .int 0, .ref m25, .ref m26, .ref m27, .ref m28, .ref m29, .int 0, .ref m31, .ref m32, .ref m33, .int 0, .int 0, .int 0, .ref m37, .ref m38, .ref m39, .ref m40, .long 0])), (m5, .inl (k 1, 1000, .inl (upd (upd (upd (upd fb 12 (vp_nar .byte x_1.toInt8.toInt32)) 13 (vp_nar .byte x_5.toInt8.toInt32)) 14 (vp_nar .byte x_9.toInt8.toInt32)) 15 (vp_nar .byte x_13.toInt8.toInt32))))] := hD
  refine lv_iinc (v := (-8)) (lv' := [(2, .int (-8)), (0, .ref mo), (1, .int p0)]) hx hb dX12_four_30 hl (k := 0) rfl (by decide) (by decide) rfl (fun ls hl => ?_)
  refine lv_goto (tgt := 3) hx hb dX12_four_33 (by decide) ?_
  refine lv_iload_n hx hb dX12_four_3 rfl (lv_at hl 0 rfl) ?_
  refine lv_if_lt (tgt := 36) hx hb dX12_four_4 (by decide) (fun _ => ?_) (fun c9 => absurd c9 (by decide))
  have hP9 := hP.sub (ws' := [(mo, .inr (12, [.int 0, .ref m1, .ref m2, .ref m3, .ref m4, .ref m5, .int 16, .int 0, .int 0, .int 0, .int 0, .long 0, .int 0, .int 0, .int 0, .int (-1), .ref m16, .ref m17, .ref m18, .ref m19, .ref m20, .ref m21, .ref m22, .ref m23, .int 0, .ref m25, .ref m26, .ref m27, .ref m28, .ref m29, .int 0, .ref m31, .ref m32, .ref m33, .int 0, .int 0, .int 0, .ref m37, .ref m38, .ref m39, .ref m40, .long 0])), (m5, .inl (k 1, 1000, .inl (upd (upd (upd (upd fb 12 (vp_nar .byte x_1.toInt8.toInt32)) 13 (vp_nar .byte x_5.toInt8.toInt32)) 14 (vp_nar .byte x_9.toInt8.toInt32)) 15 (vp_nar .byte x_13.toInt8.toInt32))))]) [0, 1] rfl
  have hD9 := hD.sub (ws' := [(mo, .inr (12, [.int 0, .ref m1, .ref m2, .ref m3, .ref m4, .ref m5, .int 16, .int 0, .int 0, .int 0, .int 0, .long 0, .int 0, .int 0, .int 0, .int (-1), .ref m16, .ref m17, .ref m18, .ref m19, .ref m20, .ref m21, .ref m22, .ref m23, .int 0, .ref m25, .ref m26, .ref m27, .ref m28, .ref m29, .int 0, .ref m31, .ref m32, .ref m33, .int 0, .int 0, .int 0, .ref m37, .ref m38, .ref m39, .ref m40, .long 0])), (m5, .inl (k 1, 1000, .inl (upd (upd (upd (upd fb 12 (vp_nar .byte x_1.toInt8.toInt32)) 13 (vp_nar .byte x_5.toInt8.toInt32)) 14 (vp_nar .byte x_9.toInt8.toInt32)) 15 (vp_nar .byte x_13.toInt8.toInt32))))]) [0, 1] (by decide) rfl
  exact W.vret hx hb hr (fun tZ ht hW => ⟨⟨upd (upd (upd (upd fb 12 (vp_nar .byte x_1.toInt8.toInt32)) 13 (vp_nar .byte x_5.toInt8.toInt32)) 14 (vp_nar .byte x_9.toInt8.toInt32)) 15 (vp_nar .byte x_13.toInt8.toInt32), rfl, trivial, by rw [ht]; exact hP9, va_K.moved hW.alike hK, hD9⟩, hS.F ht⟩) hS.2.2 dX12_four_36
set_option maxHeartbeats 4000000 in
set_option maxRecDepth 100000 in
theorem c_X12_four_16 (l : Launch) (D : va_G) (k : Nat → ClassId) (mo : Nat) (m1 : Nat) (m2 : Nat) (m3 : Nat) (m4 : Nat) (m5 : Nat) (m16 : Nat) (m17 : Nat) (m18 : Nat) (m19 : Nat) (m20 : Nat) (m21 : Nat) (m22 : Nat) (m23 : Nat) (m25 : Nat) (m26 : Nat) (m27 : Nat) (m28 : Nat) (m29 : Nat) (m31 : Nat) (m32 : Nat) (m33 : Nat) (m37 : Nat) (m38 : Nat) (m39 : Nat) (m40 : Nat) (fb : Nat → Int32) (p0 : Int32) (sz : Nat) : Met l yX12_four (ww yX12_four cX12_four 3 none) ({ frames := 0, cells := 0, slots := 0, locals := 0 }) (Pre0 D k [(mo, .inr (12, [.int 0, .ref m1, .ref m2, .ref m3, .ref m4, .ref m5, .int 16, .int 0, .int 0, .int 0, .int 0, .long 0, .int 0, .int 0, .int 0, .int (-1), .ref m16, .ref m17, .ref m18, .ref m19, .ref m20, .ref m21, .ref m22, .ref m23, .int 0, .ref m25, .ref m26, .ref m27, .ref m28, .ref m29, .int 0, .ref m31, .ref m32, .ref m33, .int 0, .int 0, .int 0, .ref m37, .ref m38, .ref m39, .ref m40, .long 0])), (m5, .inl (k 1, 1000, .inl fb))] sz [.ref mo, .int p0]) (va_Qv (fun (f2 : (Nat → Int32)) => True) (fun (f2 : (Nat → Int32)) tZ => Bw D k (va_A [(mo, .inr (12, [.int 0, .ref m1, .ref m2, .ref m3, .ref m4, .ref m5, .int 16, .int 0, .int 0, .int 0, .int 0, .long 0, .int 0, .int 0, .int 0, .int (-1), .ref m16, .ref m17, .ref m18, .ref m19, .ref m20, .ref m21, .ref m22, .ref m23, .int 0, .ref m25, .ref m26, .ref m27, .ref m28, .ref m29, .int 0, .ref m31, .ref m32, .ref m33, .int 0, .int 0, .int 0, .ref m37, .ref m38, .ref m39, .ref m40, .long 0])), (m5, .inl (k 1, 1000, .inl fb))] sz) [(mo, .inr (12, [.int 0, .ref m1, .ref m2, .ref m3, .ref m4, .ref m5, .int 20, .int 0, .int 0, .int 0, .int 0, .long 0, .int 0, .int 0, .int 0, .int (-1), .ref m16, .ref m17, .ref m18, .ref m19, .ref m20, .ref m21, .ref m22, .ref m23, .int 0, .ref m25, .ref m26, .ref m27, .ref m28, .ref m29, .int 0, .ref m31, .ref m32, .ref m33, .int 0, .int 0, .int 0, .ref m37, .ref m38, .ref m39, .ref m40, .long 0])), (m5, .inl (k 1, 1000, .inl f2))] tZ) (va_A [(mo, .inr (12, [.int 0, .ref m1, .ref m2, .ref m3, .ref m4, .ref m5, .int 16, .int 0, .int 0, .int 0, .int 0, .long 0, .int 0, .int 0, .int 0, .int (-1), .ref m16, .ref m17, .ref m18, .ref m19, .ref m20, .ref m21, .ref m22, .ref m23, .int 0, .ref m25, .ref m26, .ref m27, .ref m28, .ref m29, .int 0, .ref m31, .ref m32, .ref m33, .int 0, .int 0, .int 0, .ref m37, .ref m38, .ref m39, .ref m40, .long 0])), (m5, .inl (k 1, 1000, .inl fb))] sz)) 0 0 (va_A [(mo, .inr (12, [.int 0, .ref m1, .ref m2, .ref m3, .ref m4, .ref m5, .int 16, .int 0, .int 0, .int 0, .int 0, .long 0, .int 0, .int 0, .int 0, .int (-1), .ref m16, .ref m17, .ref m18, .ref m19, .ref m20, .ref m21, .ref m22, .ref m23, .int 0, .ref m25, .ref m26, .ref m27, .ref m28, .ref m29, .int 0, .ref m31, .ref m32, .ref m33, .int 0, .int 0, .int 0, .ref m37, .ref m38, .ref m39, .ref m40, .long 0])), (m5, .inl (k 1, 1000, .inl fb))] sz) := by
  refine Met.ofW (cc := cX12_four) (maxL := 3) (ret := none) (by decide +kernel) rfl ?_
  intro p e s m args below meth c s₁ B hml hv
  obtain ⟨rfl, hsz, hP, hK, hD0, hN⟩ := hv
  have hx := B.exec
  have hb := B.bytes
  have hr := B.returns
  have hts : ∀ w ∈ TT, w.before _ s = true := fun w h => atoms_spec (ws := ww yX12_four cX12_four 3 none) B.pre w (List.mem_cons_of_mem _ h)
  have hown : s.vm.findClass RX12 = some m.cls := findClass_of_methodNamed B.named
  have hlocks := B.notSynchronized
  subst hsz
  have hD := hD0.self (sz := s.heap.size)
  generalize hAe : va_A [(mo, .inr (12, [.int 0, .ref m1, .ref m2, .ref m3, .ref m4, .ref m5, .int 16, .int 0, .int 0, .int 0, .int 0, .long 0, .int 0, .int 0, .int 0, .int (-1), .ref m16, .ref m17, .ref m18, .ref m19, .ref m20, .ref m21, .ref m22, .ref m23, .int 0, .ref m25, .ref m26, .ref m27, .ref m28, .ref m29, .int 0, .ref m31, .ref m32, .ref m33, .int 0, .int 0, .int 0, .ref m37, .ref m38, .ref m39, .ref m40, .long 0])), (m5, .inl (k 1, 1000, .inl fb))] s.heap.size = A at hD ⊢
  have hA : ∀ q : Nat, s.heap.size ≤ q → A q := fun q h => by rw [← hAe]; exact Or.inr h
  have hS : va_S A s.heap s.heap [] := va_S.rf
  have hl := lv_entry ([.ref mo, .int p0]) (n := 3) (Nat.le_of_ble_eq_true rfl)
  rw [lg_entry_eq]
  generalize (lg_sl ([.ref mo, .int p0]) ++ List.replicate (3 - (lg_sl ([.ref mo, .int p0])).length) Slot.unset).toArray = ls at hl ⊢
  have hl : lv_has ls 3 [(0, .ref mo), (1, .int p0)] := hl
  refine lv_bipush (v := 24) hx hb dX12_four_0 (by decide) ?_
  refine lv_istore_n (lv' := [(2, .int 24), (0, .ref mo), (1, .int p0)]) hx hb dX12_four_2 rfl hl (by decide) rfl (fun ls hl => ?_)
  refine lv_iload_n hx hb dX12_four_3 rfl (lv_at hl 0 rfl) ?_
  refine lv_if_lt (tgt := 36) hx hb dX12_four_4 (by decide) (fun c9 => absurd c9 (by decide)) (fun _ => ?_)
  refine lv_aload_n hx hb dX12_four_7 rfl (lv_at hl 1 rfl) ?_
  refine va_get (D := D) (ci := 12) (v := .ref m5) (C := RX12) (T := TX12) (N := 42) hx hb hts iT_X12 hown hK hP 0 rfl rfl 5 (by decide) (hts _ tw_6_58) (fun _ h9 => h9) rfl dX12_four_8 ?_
  refine lv_aload_n hx hb dX12_four_11 rfl (lv_at hl 1 rfl) ?_
  refine va_get (D := D) (ci := 12) (v := .int 16) (C := RX12) (T := TX12) (N := 42) hx hb hts iT_X12 hown hK hP 0 rfl rfl 6 (by decide) (hts _ tw_6_59) (fun _ h9 => h9) rfl dX12_four_12 ?_
  refine lv_iload_n hx hb dX12_four_15 rfl (lv_at hl 2 rfl) ?_
  refine lv_iload_n hx hb dX12_four_16 rfl (lv_at hl 0 rfl) ?_
  refine lv_ishr hx hb dX12_four_17 ?_
  refine lv_topi (fun x_1 ex_1 => ?_)
  refine lv_i2b (v := x_1.toInt8.toInt32) hx hb dX12_four_18 rfl ?_
  refine va_bast hx hb hK hP hD hS 1 1 rfl rfl (z_in (by decide) (by decide)) dX12_four_19 (fun H locs hP hD hS => ?_)
  have hP : va_P D vwCl [(mo, .inr (12, [.int 0, .ref m1, .ref m2, .ref m3, .ref m4, .ref m5, .int 16, .int 0, .int 0, .int 0, .int 0, .long 0, .int 0, .int 0, .int 0, .int (-1), .ref m16, .ref m17, .ref m18, .ref m19, .ref m20, .ref m21, .ref m22, .ref m23, .int 0, .ref m25, .ref m26, .ref m27, .ref m28, .ref m29, .int 0, .ref m31, .ref m32, .ref m33, .int 0, .int 0, .int 0, .ref m37, .ref m38, .ref m39, .ref m40, .long 0])), (m5, .inl (k 1, 1000, .inl (upd fb 16 (vp_nar .byte x_1.toInt8.toInt32))))] H := hP
  have hD : va_D A [(mo, .inr (12, [.int 0, .ref m1, .ref m2, .ref m3, .ref m4, .ref m5, .int 16, .int 0, .int 0, .int 0, .int 0, .long 0, .int 0, .int 0, .int 0, .int (-1), .ref m16, .ref m17, .ref m18, .ref m19, .ref m20, .ref m21, .ref m22, .ref m23, .int 0, .ref m25, .ref m26, .ref m27, .ref m28, .ref m29, .int 0, .ref m31, .ref m32, .ref m33, .int 0, .int 0, .int 0, .ref m37, .ref m38, .ref m39, .ref m40, .long 0])), (m5, .inl (k 1, 1000, .inl (upd fb 16 (vp_nar .byte x_1.toInt8.toInt32))))] := hD
  refine lv_aload_n hx hb dX12_four_20 rfl (lv_at hl 1 rfl) ?_
  refine lv_dup hx hb dX12_four_21 rfl ?_
  refine va_get (D := D) (ci := 12) (v := .int 16) (C := RX12) (T := TX12) (N := 42) hx hb hts iT_X12 hown hK hP 0 rfl rfl 6 (by decide) (hts _ tw_6_59) (fun _ h9 => h9) rfl dX12_four_22 ?_
  refine lv_iconst (v := 1) hx hb dX12_four_25 (by decide) ?_
  refine lv_iadd hx hb dX12_four_26 ?_
  refine lv_topi (fun x_3 ex_3 => ?_)
  obtain rfl : x_3 = 17 := ex_3.trans (by decide)
  refine va_put (D := D) (ci := 12) (v := .int 17) (ty := tyX12 6) (C := RX12) (T := TX12) (N := 42) hx hb hts iT_X12 tyX12 tyX12_ok nmX12 hown hK hP hD hS 0 rfl rfl 6 (by decide) (hts _ tw_6_59) (fun _ h9 => h9) rfl (tyX12_ok 6 (by decide)) rfl rfl (Nat.le_of_ble_eq_true rfl) dX12_four_27 (fun H locs hP hD hS => ?_)
  have hP : va_P D vwCl [(mo, .inr (12, [.int 0, .ref m1, .ref m2, .ref m3, .ref m4, .ref m5, .int 17, .int 0, .int 0, .int 0, .int 0, .long 0, .int 0, .int 0, .int 0, .int (-1), .ref m16, .ref m17, .ref m18, .ref m19, .ref m20, .ref m21, .ref m22, .ref m23, .int 0, .ref m25, .ref m26, .ref m27, .ref m28, .ref m29, .int 0, .ref m31, .ref m32, .ref m33, .int 0, .int 0, .int 0, .ref m37, .ref m38, .ref m39, .ref m40, .long 0])), (m5, .inl (k 1, 1000, .inl (upd fb 16 (vp_nar .byte x_1.toInt8.toInt32))))] H := hP
  have hD : va_D A [(mo, .inr (12, [.int 0, .ref m1, .ref m2, .ref m3, .ref m4, .ref m5, .int 17, .int 0, .int 0, .int 0, .int 0, .long 0, .int 0, .int 0, .int 0, .int (-1), .ref m16, .ref m17, .ref m18, .ref m19, .ref m20, .ref m21, .ref m22, .ref m23, .int 0, .ref m25, .ref m26, .ref m27, .ref m28, .ref m29, .int 0, .ref m31, .ref m32, .ref m33, .int 0, .int 0, .int 0, .ref m37, .ref m38, .ref m39, .ref m40, .long 0])), (m5, .inl (k 1, 1000, .inl (upd fb 16 (vp_nar .byte x_1.toInt8.toInt32))))] := hD
  refine lv_iinc (v := 16) (lv' := [(2, .int 16), (0, .ref mo), (1, .int p0)]) hx hb dX12_four_30 hl (k := 0) rfl (by decide) (by decide) rfl (fun ls hl => ?_)
  refine lv_goto (tgt := 3) hx hb dX12_four_33 (by decide) ?_
  refine lv_iload_n hx hb dX12_four_3 rfl (lv_at hl 0 rfl) ?_
  refine lv_if_lt (tgt := 36) hx hb dX12_four_4 (by decide) (fun c9 => absurd c9 (by decide)) (fun _ => ?_)
  refine lv_aload_n hx hb dX12_four_7 rfl (lv_at hl 1 rfl) ?_
  refine va_get (D := D) (ci := 12) (v := .ref m5) (C := RX12) (T := TX12) (N := 42) hx hb hts iT_X12 hown hK hP 0 rfl rfl 5 (by decide) (hts _ tw_6_58) (fun _ h9 => h9) rfl dX12_four_8 ?_
  refine lv_aload_n hx hb dX12_four_11 rfl (lv_at hl 1 rfl) ?_
  refine va_get (D := D) (ci := 12) (v := .int 17) (C := RX12) (T := TX12) (N := 42) hx hb hts iT_X12 hown hK hP 0 rfl rfl 6 (by decide) (hts _ tw_6_59) (fun _ h9 => h9) rfl dX12_four_12 ?_
  refine lv_iload_n hx hb dX12_four_15 rfl (lv_at hl 2 rfl) ?_
  refine lv_iload_n hx hb dX12_four_16 rfl (lv_at hl 0 rfl) ?_
  refine lv_ishr hx hb dX12_four_17 ?_
  refine lv_topi (fun x_5 ex_5 => ?_)
  refine lv_i2b (v := x_5.toInt8.toInt32) hx hb dX12_four_18 rfl ?_
  refine va_bast hx hb hK hP hD hS 1 1 rfl rfl (z_in (by decide) (by decide)) dX12_four_19 (fun H locs hP hD hS => ?_)
  have hP : va_P D vwCl [(mo, .inr (12, [.int 0, .ref m1, .ref m2, .ref m3, .ref m4, .ref m5, .int 17, .int 0, .int 0, .int 0, .int 0, .long 0, .int 0, .int 0, .int 0, .int (-1), .ref m16, .ref m17, .ref m18, .ref m19, .ref m20, .ref m21, .ref m22, .ref m23, .int 0, .ref m25, .ref m26, .ref m27, .ref m28, .ref m29, .int 0, .ref m31, .ref m32, .ref m33, .int 0, .int 0, .int 0, .ref m37, .ref m38, .ref m39, .ref m40, .long 0])), (m5, .inl (k 1, 1000, .inl (upd (upd fb 16 (vp_nar .byte x_1.toInt8.toInt32)) 17 (vp_nar .byte x_5.toInt8.toInt32))))] H := hP
  have hD : va_D A [(mo, .inr (12, [.int 0, .ref m1, .ref m2, .ref m3, .ref m4, .ref m5, .int 17, .int 0, .int 0, .int 0, .int 0, .long 0, .int 0, .int 0, .int 0, .int (-1), .ref m16, .ref m17, .ref m18, .ref m19, .ref m20, .ref m21, .ref m22, .ref m23, .int 0, .ref m25, .ref m26, .ref m27, .ref m28, .ref m29, .int 0, .ref m31, .ref m32, .ref m33, .int 0, .int 0, .int 0, .ref m37, .ref m38, .ref m39, .ref m40, .long 0])), (m5, .inl (k 1, 1000, .inl (upd (upd fb 16 (vp_nar .byte x_1.toInt8.toInt32)) 17 (vp_nar .byte x_5.toInt8.toInt32))))] := hD
  refine lv_aload_n hx hb dX12_four_20 rfl (lv_at hl 1 rfl) ?_
  refine lv_dup hx hb dX12_four_21 rfl ?_
  refine va_get (D := D) (ci := 12) (v := .int 17) (C := RX12) (T := TX12) (N := 42) hx hb hts iT_X12 hown hK hP 0 rfl rfl 6 (by decide) (hts _ tw_6_59) (fun _ h9 => h9) rfl dX12_four_22 ?_
  refine lv_iconst (v := 1) hx hb dX12_four_25 (by decide) ?_
  refine lv_iadd hx hb dX12_four_26 ?_
  refine lv_topi (fun x_7 ex_7 => ?_)
  obtain rfl : x_7 = 18 := ex_7.trans (by decide)
  refine va_put (D := D) (ci := 12) (v := .int 18) (ty := tyX12 6) (C := RX12) (T := TX12) (N := 42) hx hb hts iT_X12 tyX12 tyX12_ok nmX12 hown hK hP hD hS 0 rfl rfl 6 (by decide) (hts _ tw_6_59) (fun _ h9 => h9) rfl (tyX12_ok 6 (by decide)) rfl rfl (Nat.le_of_ble_eq_true rfl) dX12_four_27 (fun H locs hP hD hS => ?_)
  have hP : va_P D vwCl [(mo, .inr (12, [.int 0, .ref m1, .ref m2, .ref m3, .ref m4, .ref m5, .int 18, .int 0, .int 0, .int 0, .int 0, .long 0, .int 0, .int 0, .int 0, .int (-1), .ref m16, .ref m17, .ref m18, .ref m19, .ref m20, .ref m21, .ref m22, .ref m23, .int 0, .ref m25, .ref m26, .ref m27, .ref m28, .ref m29, .int 0, .ref m31, .ref m32, .ref m33, .int 0, .int 0, .int 0, .ref m37, .ref m38, .ref m39, .ref m40, .long 0])), (m5, .inl (k 1, 1000, .inl (upd (upd fb 16 (vp_nar .byte x_1.toInt8.toInt32)) 17 (vp_nar .byte x_5.toInt8.toInt32))))] H := hP
  have hD : va_D A [(mo, .inr (12, [.int 0, .ref m1, .ref m2, .ref m3, .ref m4, .ref m5, .int 18, .int 0, .int 0, .int 0, .int 0, .long 0, .int 0, .int 0, .int 0, .int (-1), .ref m16, .ref m17, .ref m18, .ref m19, .ref m20, .ref m21, .ref m22, .ref m23, .int 0, .ref m25, .ref m26, .ref m27, .ref m28, .ref m29, .int 0, .ref m31, .ref m32, .ref m33, .int 0, .int 0, .int 0, .ref m37, .ref m38, .ref m39, .ref m40, .long 0])), (m5, .inl (k 1, 1000, .inl (upd (upd fb 16 (vp_nar .byte x_1.toInt8.toInt32)) 17 (vp_nar .byte x_5.toInt8.toInt32))))] := hD
  refine lv_iinc (v := 8) (lv' := [(2, .int 8), (0, .ref mo), (1, .int p0)]) hx hb dX12_four_30 hl (k := 0) rfl (by decide) (by decide) rfl (fun ls hl => ?_)
  refine lv_goto (tgt := 3) hx hb dX12_four_33 (by decide) ?_
  refine lv_iload_n hx hb dX12_four_3 rfl (lv_at hl 0 rfl) ?_
  refine lv_if_lt (tgt := 36) hx hb dX12_four_4 (by decide) (fun c9 => absurd c9 (by decide)) (fun _ => ?_)
  refine lv_aload_n hx hb dX12_four_7 rfl (lv_at hl 1 rfl) ?_
  refine va_get (D := D) (ci := 12) (v := .ref m5) (C := RX12) (T := TX12) (N := 42) hx hb hts iT_X12 hown hK hP 0 rfl rfl 5 (by decide) (hts _ tw_6_58) (fun _ h9 => h9) rfl dX12_four_8 ?_
  refine lv_aload_n hx hb dX12_four_11 rfl (lv_at hl 1 rfl) ?_
  refine va_get (D := D) (ci := 12) (v := .int 18) (C := RX12) (T := TX12) (N := 42) hx hb hts iT_X12 hown hK hP 0 rfl rfl 6 (by decide) (hts _ tw_6_59) (fun _ h9 => h9) rfl dX12_four_12 ?_
  refine lv_iload_n hx hb dX12_four_15 rfl (lv_at hl 2 rfl) ?_
  refine lv_iload_n hx hb dX12_four_16 rfl (lv_at hl 0 rfl) ?_
  refine lv_ishr hx hb dX12_four_17 ?_
  refine lv_topi (fun x_9 ex_9 => ?_)
  refine lv_i2b (v := x_9.toInt8.toInt32) hx hb dX12_four_18 rfl ?_
  refine va_bast hx hb hK hP hD hS 1 1 rfl rfl (z_in (by decide) (by decide)) dX12_four_19 (fun H locs hP hD hS => ?_)
  have hP : va_P D vwCl [(mo, .inr (12, [.int 0, .ref m1, .ref m2, .ref m3, .ref m4, .ref m5, .int 18, .int 0, .int 0, .int 0, .int 0, .long 0, .int 0, .int 0, .int 0, .int (-1), .ref m16, .ref m17, .ref m18, .ref m19, .ref m20, .ref m21, .ref m22, .ref m23, .int 0, .ref m25, .ref m26, .ref m27, .ref m28, .ref m29, .int 0, .ref m31, .ref m32, .ref m33, .int 0, .int 0, .int 0, .ref m37, .ref m38, .ref m39, .ref m40, .long 0])), (m5, .inl (k 1, 1000, .inl (upd (upd (upd fb 16 (vp_nar .byte x_1.toInt8.toInt32)) 17 (vp_nar .byte x_5.toInt8.toInt32)) 18 (vp_nar .byte x_9.toInt8.toInt32))))] H := hP
  have hD : va_D A [(mo, .inr (12, [.int 0, .ref m1, .ref m2, .ref m3, .ref m4, .ref m5, .int 18, .int 0, .int 0, .int 0, .int 0, .long 0, .int 0, .int 0, .int 0, .int (-1), .ref m16, .ref m17, .ref m18, .ref m19, .ref m20, .ref m21, .ref m22, .ref m23, .int 0, .ref m25, .ref m26, .ref m27, .ref m28, .ref m29, .int 0, .ref m31, .ref m32, .ref m33, .int 0, .int 0, .int 0, .ref m37, .ref m38, .ref m39, .ref m40, .long 0])), (m5, .inl (k 1, 1000, .inl (upd (upd (upd fb 16 (vp_nar .byte x_1.toInt8.toInt32)) 17 (vp_nar .byte x_5.toInt8.toInt32)) 18 (vp_nar .byte x_9.toInt8.toInt32))))] := hD
  refine lv_aload_n hx hb dX12_four_20 rfl (lv_at hl 1 rfl) ?_
  refine lv_dup hx hb dX12_four_21 rfl ?_
  refine va_get (D := D) (ci := 12) (v := .int 18) (C := RX12) (T := TX12) (N := 42) hx hb hts iT_X12 hown hK hP 0 rfl rfl 6 (by decide) (hts _ tw_6_59) (fun _ h9 => h9) rfl dX12_four_22 ?_
  refine lv_iconst (v := 1) hx hb dX12_four_25 (by decide) ?_
  refine lv_iadd hx hb dX12_four_26 ?_
  refine lv_topi (fun x_11 ex_11 => ?_)
  obtain rfl : x_11 = 19 := ex_11.trans (by decide)
  refine va_put (D := D) (ci := 12) (v := .int 19) (ty := tyX12 6) (C := RX12) (T := TX12) (N := 42) hx hb hts iT_X12 tyX12 tyX12_ok nmX12 hown hK hP hD hS 0 rfl rfl 6 (by decide) (hts _ tw_6_59) (fun _ h9 => h9) rfl (tyX12_ok 6 (by decide)) rfl rfl (Nat.le_of_ble_eq_true rfl) dX12_four_27 (fun H locs hP hD hS => ?_)
  have hP : va_P D vwCl [(mo, .inr (12, [.int 0, .ref m1, .ref m2, .ref m3, .ref m4, .ref m5, .int 19, .int 0, .int 0, .int 0, .int 0, .long 0, .int 0, .int 0, .int 0, .int (-1), .ref m16, .ref m17, .ref m18, .ref m19, .ref m20, .ref m21, .ref m22, .ref m23, .int 0, .ref m25, .ref m26, .ref m27, .ref m28, .ref m29, .int 0, .ref m31, .ref m32, .ref m33, .int 0, .int 0, .int 0, .ref m37, .ref m38, .ref m39, .ref m40, .long 0])), (m5, .inl (k 1, 1000, .inl (upd (upd (upd fb 16 (vp_nar .byte x_1.toInt8.toInt32)) 17 (vp_nar .byte x_5.toInt8.toInt32)) 18 (vp_nar .byte x_9.toInt8.toInt32))))] H := hP
  have hD : va_D A [(mo, .inr (12, [.int 0, .ref m1, .ref m2, .ref m3, .ref m4, .ref m5, .int 19, .int 0, .int 0, .int 0, .int 0, .long 0, .int 0, .int 0, .int 0, .int (-1), .ref m16, .ref m17, .ref m18, .ref m19, .ref m20, .ref m21, .ref m22, .ref m23, .int 0, .ref m25, .ref m26, .ref m27, .ref m28, .ref m29, .int 0, .ref m31, .ref m32, .ref m33, .int 0, .int 0, .int 0, .ref m37, .ref m38, .ref m39, .ref m40, .long 0])), (m5, .inl (k 1, 1000, .inl (upd (upd (upd fb 16 (vp_nar .byte x_1.toInt8.toInt32)) 17 (vp_nar .byte x_5.toInt8.toInt32)) 18 (vp_nar .byte x_9.toInt8.toInt32))))] := hD
  refine lv_iinc (v := 0) (lv' := [(2, .int 0), (0, .ref mo), (1, .int p0)]) hx hb dX12_four_30 hl (k := 0) rfl (by decide) (by decide) rfl (fun ls hl => ?_)
  refine lv_goto (tgt := 3) hx hb dX12_four_33 (by decide) ?_
  refine lv_iload_n hx hb dX12_four_3 rfl (lv_at hl 0 rfl) ?_
  refine lv_if_lt (tgt := 36) hx hb dX12_four_4 (by decide) (fun c9 => absurd c9 (by decide)) (fun _ => ?_)
  refine lv_aload_n hx hb dX12_four_7 rfl (lv_at hl 1 rfl) ?_
  refine va_get (D := D) (ci := 12) (v := .ref m5) (C := RX12) (T := TX12) (N := 42) hx hb hts iT_X12 hown hK hP 0 rfl rfl 5 (by decide) (hts _ tw_6_58) (fun _ h9 => h9) rfl dX12_four_8 ?_
  refine lv_aload_n hx hb dX12_four_11 rfl (lv_at hl 1 rfl) ?_
  refine va_get (D := D) (ci := 12) (v := .int 19) (C := RX12) (T := TX12) (N := 42) hx hb hts iT_X12 hown hK hP 0 rfl rfl 6 (by decide) (hts _ tw_6_59) (fun _ h9 => h9) rfl dX12_four_12 ?_
  refine lv_iload_n hx hb dX12_four_15 rfl (lv_at hl 2 rfl) ?_
  refine lv_iload_n hx hb dX12_four_16 rfl (lv_at hl 0 rfl) ?_
  refine lv_ishr hx hb dX12_four_17 ?_
  refine lv_topi (fun x_13 ex_13 => ?_)
  refine lv_i2b (v := x_13.toInt8.toInt32) hx hb dX12_four_18 rfl ?_
  refine va_bast hx hb hK hP hD hS 1 1 rfl rfl (z_in (by decide) (by decide)) dX12_four_19 (fun H locs hP hD hS => ?_)
  have hP : va_P D vwCl [(mo, .inr (12, [.int 0, .ref m1, .ref m2, .ref m3, .ref m4, .ref m5, .int 19, .int 0, .int 0, .int 0, .int 0, .long 0, .int 0, .int 0, .int 0, .int (-1), .ref m16, .ref m17, .ref m18, .ref m19, .ref m20, .ref m21, .ref m22, .ref m23, .int 0, .ref m25, .ref m26, .ref m27, .ref m28, .ref m29, .int 0, .ref m31, .ref m32, .ref m33, .int 0, .int 0, .int 0, .ref m37, .ref m38, .ref m39, .ref m40, .long 0])), (m5, .inl (k 1, 1000, .inl (upd (upd (upd (upd fb 16 (vp_nar .byte x_1.toInt8.toInt32)) 17 (vp_nar .byte x_5.toInt8.toInt32)) 18 (vp_nar .byte x_9.toInt8.toInt32)) 19 (vp_nar .byte x_13.toInt8.toInt32))))] H := hP
  have hD : va_D A [(mo, .inr (12, [.int 0, .ref m1, .ref m2, .ref m3, .ref m4, .ref m5, .int 19, .int 0, .int 0, .int 0, .int 0, .long 0, .int 0, .int 0, .int 0, .int (-1), .ref m16, .ref m17, .ref m18, .ref m19, .ref m20, .ref m21, .ref m22, .ref m23, .int 0, .ref m25, .ref m26, .ref m27, .ref m28, .ref m29, .int 0, .ref m31, .ref m32, .ref m33, .int 0, .int 0, .int 0, .ref m37, .ref m38, .ref m39, .ref m40, .long 0])), (m5, .inl (k 1, 1000, .inl (upd (upd (upd (upd fb 16 (vp_nar .byte x_1.toInt8.toInt32)) 17 (vp_nar .byte x_5.toInt8.toInt32)) 18 (vp_nar .byte x_9.toInt8.toInt32)) 19 (vp_nar .byte x_13.toInt8.toInt32))))] := hD
  refine lv_aload_n hx hb dX12_four_20 rfl (lv_at hl 1 rfl) ?_
  refine lv_dup hx hb dX12_four_21 rfl ?_
  refine va_get (D := D) (ci := 12) (v := .int 19) (C := RX12) (T := TX12) (N := 42) hx hb hts iT_X12 hown hK hP 0 rfl rfl 6 (by decide) (hts _ tw_6_59) (fun _ h9 => h9) rfl dX12_four_22 ?_
  refine lv_iconst (v := 1) hx hb dX12_four_25 (by decide) ?_
  refine lv_iadd hx hb dX12_four_26 ?_
  refine lv_topi (fun x_15 ex_15 => ?_)
  obtain rfl : x_15 = 20 := ex_15.trans (by decide)
  refine va_put (D := D) (ci := 12) (v := .int 20) (ty := tyX12 6) (C := RX12) (T := TX12) (N := 42) hx hb hts iT_X12 tyX12 tyX12_ok nmX12 hown hK hP hD hS 0 rfl rfl 6 (by decide) (hts _ tw_6_59) (fun _ h9 => h9) rfl (tyX12_ok 6 (by decide)) rfl rfl (Nat.le_of_ble_eq_true rfl) dX12_four_27 (fun H locs hP hD hS => ?_)
  have hP : va_P D vwCl [(mo, .inr (12, [.int 0, .ref m1, .ref m2, .ref m3, .ref m4, .ref m5, .int 20, .int 0, .int 0, .int 0, .int 0, .long 0, .int 0, .int 0, .int 0, .int (-1), .ref m16, .ref m17, .ref m18, .ref m19, .ref m20, .ref m21, .ref m22, .ref m23, .int 0, .ref m25, .ref m26, .ref m27, .ref m28, .ref m29, .int 0, .ref m31, .ref m32, .ref m33, .int 0, .int 0, .int 0, .ref m37, .ref m38, .ref m39, .ref m40, .long 0])), (m5, .inl (k 1, 1000, .inl (upd (upd (upd (upd fb 16 (vp_nar .byte x_1.toInt8.toInt32)) 17 (vp_nar .byte x_5.toInt8.toInt32)) 18 (vp_nar .byte x_9.toInt8.toInt32)) 19 (vp_nar .byte x_13.toInt8.toInt32))))] H := hP
  have hD : va_D A [(mo, .inr (12, [.int 0, .ref m1, .ref m2, .ref m3, .ref m4, .ref m5, .int 20, .int 0, .int 0, .int 0, .int 0, .long 0, .int 0, .int 0, .int 0, .int (-1), .ref m16, .ref m17, .ref m18, .ref m19, .ref m20, .ref m21, .ref m22, .ref m23, .int 0, .ref m25, .ref m26, .ref m27, .ref m28, .ref m29, .int 0, .ref m31, .ref m32, .ref m33, .int 0, .int 0, .int 0, .ref m37, .ref m38, .ref m39, .ref m40, .long 0])), (m5, .inl (k 1, 1000, .inl (upd (upd (upd (upd fb 16 (vp_nar .byte x_1.toInt8.toInt32)) 17 (vp_nar .byte x_5.toInt8.toInt32)) 18 (vp_nar .byte x_9.toInt8.toInt32)) 19 (vp_nar .byte x_13.toInt8.toInt32))))] := hD
  refine lv_iinc (v := (-8)) (lv' := [(2, .int (-8)), (0, .ref mo), (1, .int p0)]) hx hb dX12_four_30 hl (k := 0) rfl (by decide) (by decide) rfl (fun ls hl => ?_)
  refine lv_goto (tgt := 3) hx hb dX12_four_33 (by decide) ?_
  refine lv_iload_n hx hb dX12_four_3 rfl (lv_at hl 0 rfl) ?_
  refine lv_if_lt (tgt := 36) hx hb dX12_four_4 (by decide) (fun _ => ?_) (fun c9 => absurd c9 (by decide))
  have hP9 := hP.sub (ws' := [(mo, .inr (12, [.int 0, .ref m1, .ref m2, .ref m3, .ref m4, .ref m5, .int 20, .int 0, .int 0, .int 0, .int 0, .long 0, .int 0, .int 0, .int 0, .int (-1), .ref m16, .ref m17, .ref m18, .ref m19, .ref m20, .ref m21, .ref m22, .ref m23, .int 0, .ref m25, .ref m26, .ref m27, .ref m28, .ref m29, .int 0, .ref m31, .ref m32, .ref m33, .int 0, .int 0, .int 0, .ref m37, .ref m38, .ref m39, .ref m40, .long 0])), (m5, .inl (k 1, 1000, .inl (upd (upd (upd (upd fb 16 (vp_nar .byte x_1.toInt8.toInt32)) 17 (vp_nar .byte x_5.toInt8.toInt32)) 18 (vp_nar .byte x_9.toInt8.toInt32)) 19 (vp_nar .byte x_13.toInt8.toInt32))))]) [0, 1] rfl
  have hD9 := hD.sub (ws' := [(mo, .inr (12, [.int 0, .ref m1, .ref m2, .ref m3, .ref m4, .ref m5, .int 20, .int 0, .int 0, .int 0, .int 0, .long 0, .int 0, .int 0, .int 0, .int (-1), .ref m16, .ref m17, .ref m18, .ref m19, .ref m20, .ref m21, .ref m22, .ref m23, .int 0, .ref m25, .ref m26, .ref m27, .ref m28, .ref m29, .int 0, .ref m31, .ref m32, .ref m33, .int 0, .int 0, .int 0, .ref m37, .ref m38, .ref m39, .ref m40, .long 0])), (m5, .inl (k 1, 1000, .inl (upd (upd (upd (upd fb 16 (vp_nar .byte x_1.toInt8.toInt32)) 17 (vp_nar .byte x_5.toInt8.toInt32)) 18 (vp_nar .byte x_9.toInt8.toInt32)) 19 (vp_nar .byte x_13.toInt8.toInt32))))]) [0, 1] (by decide) rfl
  exact W.vret hx hb hr (fun tZ ht hW => ⟨⟨upd (upd (upd (upd fb 16 (vp_nar .byte x_1.toInt8.toInt32)) 17 (vp_nar .byte x_5.toInt8.toInt32)) 18 (vp_nar .byte x_9.toInt8.toInt32)) 19 (vp_nar .byte x_13.toInt8.toInt32), rfl, trivial, by rw [ht]; exact hP9, va_K.moved hW.alike hK, hD9⟩, hS.F ht⟩) hS.2.2 dX12_four_36
set_option maxHeartbeats 4000000 in
set_option maxRecDepth 100000 in
theorem c_X12_feed (l : Launch) (D : va_G) (k : Nat → ClassId) (mo : Nat) (m1 : Nat) (m2 : Nat) (m3 : Nat) (m4 : Nat) (m5 : Nat) (m16 : Nat) (m17 : Nat) (m18 : Nat) (m19 : Nat) (m20 : Nat) (m21 : Nat) (m22 : Nat) (m23 : Nat) (m25 : Nat) (m26 : Nat) (m27 : Nat) (m28 : Nat) (m29 : Nat) (m31 : Nat) (m32 : Nat) (m33 : Nat) (m37 : Nat) (m38 : Nat) (m39 : Nat) (m40 : Nat) (fb : Nat → Int32) (p0 : Int32) (p1 : Int32) (p2 : Int32) (p3 : Int32) (p4 : Int32) (sz : Nat) : Met l yX12_feed (ww yX12_feed cX12_feed 6 (some .int)) ({ frames := 1, cells := 0, slots := 0, locals := 22 }) (Pre0 D k [(mo, .inr (12, [.int 0, .ref m1, .ref m2, .ref m3, .ref m4, .ref m5, .int 0, .int 0, .int 0, .int 0, .int 0, .long 0, .int 0, .int 0, .int 0, .int (-1), .ref m16, .ref m17, .ref m18, .ref m19, .ref m20, .ref m21, .ref m22, .ref m23, .int 0, .ref m25, .ref m26, .ref m27, .ref m28, .ref m29, .int 0, .ref m31, .ref m32, .ref m33, .int 0, .int 0, .int 0, .ref m37, .ref m38, .ref m39, .ref m40, .long 0])), (m5, .inl (k 1, 1000, .inl fb))] sz [.ref mo, .int p0, .int p1, .int p2, .int p3, .int p4]) (va_Qi (fun (r : Int32) (_ : Unit) => r = 20) (fun (_ : Unit) tZ => Bw D k (va_A [(mo, .inr (12, [.int 0, .ref m1, .ref m2, .ref m3, .ref m4, .ref m5, .int 0, .int 0, .int 0, .int 0, .int 0, .long 0, .int 0, .int 0, .int 0, .int (-1), .ref m16, .ref m17, .ref m18, .ref m19, .ref m20, .ref m21, .ref m22, .ref m23, .int 0, .ref m25, .ref m26, .ref m27, .ref m28, .ref m29, .int 0, .ref m31, .ref m32, .ref m33, .int 0, .int 0, .int 0, .ref m37, .ref m38, .ref m39, .ref m40, .long 0])), (m5, .inl (k 1, 1000, .inl fb))] sz) [] tZ) (va_A [(mo, .inr (12, [.int 0, .ref m1, .ref m2, .ref m3, .ref m4, .ref m5, .int 0, .int 0, .int 0, .int 0, .int 0, .long 0, .int 0, .int 0, .int 0, .int (-1), .ref m16, .ref m17, .ref m18, .ref m19, .ref m20, .ref m21, .ref m22, .ref m23, .int 0, .ref m25, .ref m26, .ref m27, .ref m28, .ref m29, .int 0, .ref m31, .ref m32, .ref m33, .int 0, .int 0, .int 0, .ref m37, .ref m38, .ref m39, .ref m40, .long 0])), (m5, .inl (k 1, 1000, .inl fb))] sz)) 0 0 (va_A [(mo, .inr (12, [.int 0, .ref m1, .ref m2, .ref m3, .ref m4, .ref m5, .int 0, .int 0, .int 0, .int 0, .int 0, .long 0, .int 0, .int 0, .int 0, .int (-1), .ref m16, .ref m17, .ref m18, .ref m19, .ref m20, .ref m21, .ref m22, .ref m23, .int 0, .ref m25, .ref m26, .ref m27, .ref m28, .ref m29, .int 0, .ref m31, .ref m32, .ref m33, .int 0, .int 0, .int 0, .ref m37, .ref m38, .ref m39, .ref m40, .long 0])), (m5, .inl (k 1, 1000, .inl fb))] sz) := by
  refine Met.ofW (cc := cX12_feed) (maxL := 6) (ret := (some .int)) (by decide +kernel) rfl ?_
  intro p e s m args below meth c s₁ B hml hv
  obtain ⟨rfl, hsz, hP, hK, hD0, hN⟩ := hv
  have hx := B.exec
  have hb := B.bytes
  have hr := B.returns
  have hts : ∀ w ∈ TT, w.before _ s = true := fun w h => atoms_spec (ws := ww yX12_feed cX12_feed 6 (some .int)) B.pre w (List.mem_cons_of_mem _ h)
  have hown : s.vm.findClass RX12 = some m.cls := findClass_of_methodNamed B.named
  have hlocks := B.notSynchronized
  subst hsz
  have hD := hD0.self (sz := s.heap.size)
  generalize hAe : va_A [(mo, .inr (12, [.int 0, .ref m1, .ref m2, .ref m3, .ref m4, .ref m5, .int 0, .int 0, .int 0, .int 0, .int 0, .long 0, .int 0, .int 0, .int 0, .int (-1), .ref m16, .ref m17, .ref m18, .ref m19, .ref m20, .ref m21, .ref m22, .ref m23, .int 0, .ref m25, .ref m26, .ref m27, .ref m28, .ref m29, .int 0, .ref m31, .ref m32, .ref m33, .int 0, .int 0, .int 0, .ref m37, .ref m38, .ref m39, .ref m40, .long 0])), (m5, .inl (k 1, 1000, .inl fb))] s.heap.size = A at hD ⊢
  have hA : ∀ q : Nat, s.heap.size ≤ q → A q := fun q h => by rw [← hAe]; exact Or.inr h
  have hS : va_S A s.heap s.heap [] := va_S.rf
  have hl := lv_entry ([.ref mo, .int p0, .int p1, .int p2, .int p3, .int p4]) (n := 6) (Nat.le_of_ble_eq_true rfl)
  rw [lg_entry_eq]
  generalize (lg_sl ([.ref mo, .int p0, .int p1, .int p2, .int p3, .int p4]) ++ List.replicate (6 - (lg_sl ([.ref mo, .int p0, .int p1, .int p2, .int p3, .int p4])).length) Slot.unset).toArray = ls at hl ⊢
  have hl : lv_has ls 6 [(0, .ref mo), (1, .int p0), (2, .int p1), (3, .int p2), (4, .int p3), (5, .int p4)] := hl
  refine lv_aload_n hx hb dX12_feed_0 rfl (lv_at hl 0 rfl) ?_
  refine lv_iconst (v := 0) hx hb dX12_feed_1 (by decide) ?_
  refine va_put (D := D) (ci := 12) (v := .int 0) (ty := tyX12 0) (C := RX12) (T := TX12) (N := 42) hx hb hts iT_X12 tyX12 tyX12_ok nmX12 hown hK hP hD hS 0 rfl rfl 0 (by decide) (hts _ tw_6_53) (fun _ h9 => h9) rfl (tyX12_ok 0 (by decide)) rfl rfl (Nat.le_of_ble_eq_true rfl) dX12_feed_2 (fun H locs hP hD hS => ?_)
  have hP : va_P D vwCl [(mo, .inr (12, [.int 0, .ref m1, .ref m2, .ref m3, .ref m4, .ref m5, .int 0, .int 0, .int 0, .int 0, .int 0, .long 0, .int 0, .int 0, .int 0, .int (-1), .ref m16, .ref m17, .ref m18, .ref m19, .ref m20, .ref m21, .ref m22, .ref m23, .int 0, .ref m25, .ref m26, .ref m27, .ref m28, .ref m29, .int 0, .ref m31, .ref m32, .ref m33, .int 0, .int 0, .int 0, .ref m37, .ref m38, .ref m39, .ref m40, .long 0])), (m5, .inl (k 1, 1000, .inl fb))] H := hP
  have hD : va_D A [(mo, .inr (12, [.int 0, .ref m1, .ref m2, .ref m3, .ref m4, .ref m5, .int 0, .int 0, .int 0, .int 0, .int 0, .long 0, .int 0, .int 0, .int 0, .int (-1), .ref m16, .ref m17, .ref m18, .ref m19, .ref m20, .ref m21, .ref m22, .ref m23, .int 0, .ref m25, .ref m26, .ref m27, .ref m28, .ref m29, .int 0, .ref m31, .ref m32, .ref m33, .int 0, .int 0, .int 0, .ref m37, .ref m38, .ref m39, .ref m40, .long 0])), (m5, .inl (k 1, 1000, .inl fb))] := hD
  refine lv_aload_n hx hb dX12_feed_5 rfl (lv_at hl 0 rfl) ?_
  refine va_get (D := D) (ci := 12) (v := .int 0) (C := RX12) (T := TX12) (N := 42) hx hb hts iT_X12 hown hK hP 0 rfl rfl 6 (by decide) (hts _ tw_6_59) (fun _ h9 => h9) rfl dX12_feed_6 ?_
  refine lv_bipush (v := 20) hx hb dX12_feed_9 (by decide) ?_
  refine lv_iadd hx hb dX12_feed_11 ?_
  refine lv_topi (fun x_1 ex_1 => ?_)
  obtain rfl : x_1 = 20 := ex_1.trans (by decide)
  refine lv_sipush (v := 1000) hx hb dX12_feed_12 (by decide) ?_
  refine lv_icmp_le (tgt := 20) hx hb dX12_feed_15 (by decide) (fun _ => ?_) (fun c9 => absurd c9 (by decide))
  refine lv_aload_n hx hb dX12_feed_20 rfl (lv_at hl 0 rfl) ?_
  refine lv_iload_n hx hb dX12_feed_21 rfl (lv_at hl 1 rfl) ?_
  have hPc := hP.sub (ws' := [(mo, .inr (12, [.int 0, .ref m1, .ref m2, .ref m3, .ref m4, .ref m5, .int 0, .int 0, .int 0, .int 0, .int 0, .long 0, .int 0, .int 0, .int 0, .int (-1), .ref m16, .ref m17, .ref m18, .ref m19, .ref m20, .ref m21, .ref m22, .ref m23, .int 0, .ref m25, .ref m26, .ref m27, .ref m28, .ref m29, .int 0, .ref m31, .ref m32, .ref m33, .int 0, .int 0, .int 0, .ref m37, .ref m38, .ref m39, .ref m40, .long 0])), (m5, .inl (k 1, 1000, .inl fb))]) [0, 1] rfl
  have hDc := hD.sub (ws' := [(mo, .inr (12, [.int 0, .ref m1, .ref m2, .ref m3, .ref m4, .ref m5, .int 0, .int 0, .int 0, .int 0, .int 0, .long 0, .int 0, .int 0, .int 0, .int (-1), .ref m16, .ref m17, .ref m18, .ref m19, .ref m20, .ref m21, .ref m22, .ref m23, .int 0, .ref m25, .ref m26, .ref m27, .ref m28, .ref m29, .int 0, .ref m31, .ref m32, .ref m33, .int 0, .int 0, .int 0, .ref m37, .ref m38, .ref m39, .ref m40, .long 0])), (m5, .inl (k 1, 1000, .inl fb))]) [0, 1] (by decide) rfl
  have hFc := va_free (wc := [(mo, .inr (12, [.int 0, .ref m1, .ref m2, .ref m3, .ref m4, .ref m5, .int 0, .int 0, .int 0, .int 0, .int 0, .long 0, .int 0, .int 0, .int 0, .int (-1), .ref m16, .ref m17, .ref m18, .ref m19, .ref m20, .ref m21, .ref m22, .ref m23, .int 0, .ref m25, .ref m26, .ref m27, .ref m28, .ref m29, .int 0, .ref m31, .ref m32, .ref m33, .int 0, .int 0, .int 0, .ref m37, .ref m38, .ref m39, .ref m40, .long 0])), (m5, .inl (k 1, 1000, .inl fb))]) hD hS hA [0, 1] rfl
  refine va_callv (va_runV (C := RX12) (As := [.int p0]) (rest := []) ⟨hx, hb, hml, hown, hts⟩ (c_X12_four_0 l D k mo m1 m2 m3 m4 m5 m16 m17 m18 m19 m20 m21 m22 m23 m25 m26 m27 m28 m29 m31 m32 m33 m37 m38 m39 m40 fb p0 H.size) (cwV 1 hts (gV tw_6_206 tw_6_208 tw_p_35 tw_1_13 tw_6_209) rfl rfl rfl hdV_X12_four ⟨Nat.le_of_ble_eq_true rfl, Nat.le_of_ble_eq_true rfl⟩) (cz_V hK hPc hDc hN (ci := 12) (q0 := 0) rfl rfl [.int p0]) rfl rfl hl.1 rfl (lv_room (Nat.le_of_ble_eq_true rfl)) dX12_feed_22 ⟨Nat.le_of_ble_eq_true rfl, Nat.le_of_ble_eq_true rfl⟩) hS (fun q _ h => hFc q h) hFc (fun uZ tZ H1 locs ht hvm hw hB hz1 hk1 hS => ?_)
  obtain ⟨o_3, rfl⟩ : ∃ z, z = uZ := ⟨_, rfl⟩
  obtain ⟨hP1, hK1, hD1⟩ := hB
  rw [ht] at hP1
  obtain ⟨hP, hD⟩ := va_join (wr := []) (w1 := [(mo, .inr (12, [.int 0, .ref m1, .ref m2, .ref m3, .ref m4, .ref m5, .int 4, .int 0, .int 0, .int 0, .int 0, .long 0, .int 0, .int 0, .int 0, .int (-1), .ref m16, .ref m17, .ref m18, .ref m19, .ref m20, .ref m21, .ref m22, .ref m23, .int 0, .ref m25, .ref m26, .ref m27, .ref m28, .ref m29, .int 0, .ref m31, .ref m32, .ref m33, .int 0, .int 0, .int 0, .ref m37, .ref m38, .ref m39, .ref m40, .long 0])), (m5, .inl (k 1, 1000, .inl o_3))]) hP hD [0, 1] [] rfl rfl (by decide) (by decide) hk1 hFc hP1 hD1
  clear hK1 hP1 hD1 hPc hDc hFc
  clear hk1 hz1 ht hvm
  have hP : va_P D vwCl [(mo, .inr (12, [.int 0, .ref m1, .ref m2, .ref m3, .ref m4, .ref m5, .int 4, .int 0, .int 0, .int 0, .int 0, .long 0, .int 0, .int 0, .int 0, .int (-1), .ref m16, .ref m17, .ref m18, .ref m19, .ref m20, .ref m21, .ref m22, .ref m23, .int 0, .ref m25, .ref m26, .ref m27, .ref m28, .ref m29, .int 0, .ref m31, .ref m32, .ref m33, .int 0, .int 0, .int 0, .ref m37, .ref m38, .ref m39, .ref m40, .long 0])), (m5, .inl (k 1, 1000, .inl o_3))] H1 := hP
  have hD : va_D A [(mo, .inr (12, [.int 0, .ref m1, .ref m2, .ref m3, .ref m4, .ref m5, .int 4, .int 0, .int 0, .int 0, .int 0, .long 0, .int 0, .int 0, .int 0, .int (-1), .ref m16, .ref m17, .ref m18, .ref m19, .ref m20, .ref m21, .ref m22, .ref m23, .int 0, .ref m25, .ref m26, .ref m27, .ref m28, .ref m29, .int 0, .ref m31, .ref m32, .ref m33, .int 0, .int 0, .int 0, .ref m37, .ref m38, .ref m39, .ref m40, .long 0])), (m5, .inl (k 1, 1000, .inl o_3))] := hD
  generalize H1 = H at hP hS ⊢
  clear hw
  refine lv_aload_n hx hb dX12_feed_25 rfl (lv_at hl 0 rfl) ?_
  refine lv_iload_n hx hb dX12_feed_26 rfl (lv_at hl 2 rfl) ?_
  have hPc := hP.sub (ws' := [(mo, .inr (12, [.int 0, .ref m1, .ref m2, .ref m3, .ref m4, .ref m5, .int 4, .int 0, .int 0, .int 0, .int 0, .long 0, .int 0, .int 0, .int 0, .int (-1), .ref m16, .ref m17, .ref m18, .ref m19, .ref m20, .ref m21, .ref m22, .ref m23, .int 0, .ref m25, .ref m26, .ref m27, .ref m28, .ref m29, .int 0, .ref m31, .ref m32, .ref m33, .int 0, .int 0, .int 0, .ref m37, .ref m38, .ref m39, .ref m40, .long 0])), (m5, .inl (k 1, 1000, .inl o_3))]) [0, 1] rfl
  have hDc := hD.sub (ws' := [(mo, .inr (12, [.int 0, .ref m1, .ref m2, .ref m3, .ref m4, .ref m5, .int 4, .int 0, .int 0, .int 0, .int 0, .long 0, .int 0, .int 0, .int 0, .int (-1), .ref m16, .ref m17, .ref m18, .ref m19, .ref m20, .ref m21, .ref m22, .ref m23, .int 0, .ref m25, .ref m26, .ref m27, .ref m28, .ref m29, .int 0, .ref m31, .ref m32, .ref m33, .int 0, .int 0, .int 0, .ref m37, .ref m38, .ref m39, .ref m40, .long 0])), (m5, .inl (k 1, 1000, .inl o_3))]) [0, 1] (by decide) rfl
  have hFc := va_free (wc := [(mo, .inr (12, [.int 0, .ref m1, .ref m2, .ref m3, .ref m4, .ref m5, .int 4, .int 0, .int 0, .int 0, .int 0, .long 0, .int 0, .int 0, .int 0, .int (-1), .ref m16, .ref m17, .ref m18, .ref m19, .ref m20, .ref m21, .ref m22, .ref m23, .int 0, .ref m25, .ref m26, .ref m27, .ref m28, .ref m29, .int 0, .ref m31, .ref m32, .ref m33, .int 0, .int 0, .int 0, .ref m37, .ref m38, .ref m39, .ref m40, .long 0])), (m5, .inl (k 1, 1000, .inl o_3))]) hD hS hA [0, 1] rfl
  refine va_callv (va_runV (C := RX12) (As := [.int p1]) (rest := []) ⟨hx, hb, hml, hown, hts⟩ (c_X12_four_4 l D k mo m1 m2 m3 m4 m5 m16 m17 m18 m19 m20 m21 m22 m23 m25 m26 m27 m28 m29 m31 m32 m33 m37 m38 m39 m40 o_3 p1 H.size) (cwV 1 hts (gV tw_6_206 tw_6_208 tw_p_35 tw_1_13 tw_6_209) rfl rfl rfl hdV_X12_four ⟨Nat.le_of_ble_eq_true rfl, Nat.le_of_ble_eq_true rfl⟩) (cz_V hK hPc hDc hN (ci := 12) (q0 := 0) rfl rfl [.int p1]) rfl rfl hl.1 rfl (lv_room (Nat.le_of_ble_eq_true rfl)) dX12_feed_27 ⟨Nat.le_of_ble_eq_true rfl, Nat.le_of_ble_eq_true rfl⟩) hS (fun q _ h => hFc q h) hFc (fun uZ tZ H1 locs ht hvm hw hB hz1 hk1 hS => ?_)
  obtain ⟨o_6, rfl⟩ : ∃ z, z = uZ := ⟨_, rfl⟩
  obtain ⟨hP1, hK1, hD1⟩ := hB
  rw [ht] at hP1
  obtain ⟨hP, hD⟩ := va_join (wr := []) (w1 := [(mo, .inr (12, [.int 0, .ref m1, .ref m2, .ref m3, .ref m4, .ref m5, .int 8, .int 0, .int 0, .int 0, .int 0, .long 0, .int 0, .int 0, .int 0, .int (-1), .ref m16, .ref m17, .ref m18, .ref m19, .ref m20, .ref m21, .ref m22, .ref m23, .int 0, .ref m25, .ref m26, .ref m27, .ref m28, .ref m29, .int 0, .ref m31, .ref m32, .ref m33, .int 0, .int 0, .int 0, .ref m37, .ref m38, .ref m39, .ref m40, .long 0])), (m5, .inl (k 1, 1000, .inl o_6))]) hP hD [0, 1] [] rfl rfl (by decide) (by decide) hk1 hFc hP1 hD1
  clear hK1 hP1 hD1 hPc hDc hFc
  clear hk1 hz1 ht hvm
  have hP : va_P D vwCl [(mo, .inr (12, [.int 0, .ref m1, .ref m2, .ref m3, .ref m4, .ref m5, .int 8, .int 0, .int 0, .int 0, .int 0, .long 0, .int 0, .int 0, .int 0, .int (-1), .ref m16, .ref m17, .ref m18, .ref m19, .ref m20, .ref m21, .ref m22, .ref m23, .int 0, .ref m25, .ref m26, .ref m27, .ref m28, .ref m29, .int 0, .ref m31, .ref m32, .ref m33, .int 0, .int 0, .int 0, .ref m37, .ref m38, .ref m39, .ref m40, .long 0])), (m5, .inl (k 1, 1000, .inl o_6))] H1 := hP
  have hD : va_D A [(mo, .inr (12, [.int 0, .ref m1, .ref m2, .ref m3, .ref m4, .ref m5, .int 8, .int 0, .int 0, .int 0, .int 0, .long 0, .int 0, .int 0, .int 0, .int (-1), .ref m16, .ref m17, .ref m18, .ref m19, .ref m20, .ref m21, .ref m22, .ref m23, .int 0, .ref m25, .ref m26, .ref m27, .ref m28, .ref m29, .int 0, .ref m31, .ref m32, .ref m33, .int 0, .int 0, .int 0, .ref m37, .ref m38, .ref m39, .ref m40, .long 0])), (m5, .inl (k 1, 1000, .inl o_6))] := hD
  generalize H1 = H at hP hS ⊢
  clear hw
  refine lv_aload_n hx hb dX12_feed_30 rfl (lv_at hl 0 rfl) ?_
  refine lv_iload_n hx hb dX12_feed_31 rfl (lv_at hl 3 rfl) ?_
  have hPc := hP.sub (ws' := [(mo, .inr (12, [.int 0, .ref m1, .ref m2, .ref m3, .ref m4, .ref m5, .int 8, .int 0, .int 0, .int 0, .int 0, .long 0, .int 0, .int 0, .int 0, .int (-1), .ref m16, .ref m17, .ref m18, .ref m19, .ref m20, .ref m21, .ref m22, .ref m23, .int 0, .ref m25, .ref m26, .ref m27, .ref m28, .ref m29, .int 0, .ref m31, .ref m32, .ref m33, .int 0, .int 0, .int 0, .ref m37, .ref m38, .ref m39, .ref m40, .long 0])), (m5, .inl (k 1, 1000, .inl o_6))]) [0, 1] rfl
  have hDc := hD.sub (ws' := [(mo, .inr (12, [.int 0, .ref m1, .ref m2, .ref m3, .ref m4, .ref m5, .int 8, .int 0, .int 0, .int 0, .int 0, .long 0, .int 0, .int 0, .int 0, .int (-1), .ref m16, .ref m17, .ref m18, .ref m19, .ref m20, .ref m21, .ref m22, .ref m23, .int 0, .ref m25, .ref m26, .ref m27, .ref m28, .ref m29, .int 0, .ref m31, .ref m32, .ref m33, .int 0, .int 0, .int 0, .ref m37, .ref m38, .ref m39, .ref m40, .long 0])), (m5, .inl (k 1, 1000, .inl o_6))]) [0, 1] (by decide) rfl
  have hFc := va_free (wc := [(mo, .inr (12, [.int 0, .ref m1, .ref m2, .ref m3, .ref m4, .ref m5, .int 8, .int 0, .int 0, .int 0, .int 0, .long 0, .int 0, .int 0, .int 0, .int (-1), .ref m16, .ref m17, .ref m18, .ref m19, .ref m20, .ref m21, .ref m22, .ref m23, .int 0, .ref m25, .ref m26, .ref m27, .ref m28, .ref m29, .int 0, .ref m31, .ref m32, .ref m33, .int 0, .int 0, .int 0, .ref m37, .ref m38, .ref m39, .ref m40, .long 0])), (m5, .inl (k 1, 1000, .inl o_6))]) hD hS hA [0, 1] rfl
  refine va_callv (va_runV (C := RX12) (As := [.int p2]) (rest := []) ⟨hx, hb, hml, hown, hts⟩ (c_X12_four_8 l D k mo m1 m2 m3 m4 m5 m16 m17 m18 m19 m20 m21 m22 m23 m25 m26 m27 m28 m29 m31 m32 m33 m37 m38 m39 m40 o_6 p2 H.size) (cwV 1 hts (gV tw_6_206 tw_6_208 tw_p_35 tw_1_13 tw_6_209) rfl rfl rfl hdV_X12_four ⟨Nat.le_of_ble_eq_true rfl, Nat.le_of_ble_eq_true rfl⟩) (cz_V hK hPc hDc hN (ci := 12) (q0 := 0) rfl rfl [.int p2]) rfl rfl hl.1 rfl (lv_room (Nat.le_of_ble_eq_true rfl)) dX12_feed_32 ⟨Nat.le_of_ble_eq_true rfl, Nat.le_of_ble_eq_true rfl⟩) hS (fun q _ h => hFc q h) hFc (fun uZ tZ H1 locs ht hvm hw hB hz1 hk1 hS => ?_)
  obtain ⟨o_9, rfl⟩ : ∃ z, z = uZ := ⟨_, rfl⟩
  obtain ⟨hP1, hK1, hD1⟩ := hB
  rw [ht] at hP1
  obtain ⟨hP, hD⟩ := va_join (wr := []) (w1 := [(mo, .inr (12, [.int 0, .ref m1, .ref m2, .ref m3, .ref m4, .ref m5, .int 12, .int 0, .int 0, .int 0, .int 0, .long 0, .int 0, .int 0, .int 0, .int (-1), .ref m16, .ref m17, .ref m18, .ref m19, .ref m20, .ref m21, .ref m22, .ref m23, .int 0, .ref m25, .ref m26, .ref m27, .ref m28, .ref m29, .int 0, .ref m31, .ref m32, .ref m33, .int 0, .int 0, .int 0, .ref m37, .ref m38, .ref m39, .ref m40, .long 0])), (m5, .inl (k 1, 1000, .inl o_9))]) hP hD [0, 1] [] rfl rfl (by decide) (by decide) hk1 hFc hP1 hD1
  clear hK1 hP1 hD1 hPc hDc hFc
  clear hk1 hz1 ht hvm
  have hP : va_P D vwCl [(mo, .inr (12, [.int 0, .ref m1, .ref m2, .ref m3, .ref m4, .ref m5, .int 12, .int 0, .int 0, .int 0, .int 0, .long 0, .int 0, .int 0, .int 0, .int (-1), .ref m16, .ref m17, .ref m18, .ref m19, .ref m20, .ref m21, .ref m22, .ref m23, .int 0, .ref m25, .ref m26, .ref m27, .ref m28, .ref m29, .int 0, .ref m31, .ref m32, .ref m33, .int 0, .int 0, .int 0, .ref m37, .ref m38, .ref m39, .ref m40, .long 0])), (m5, .inl (k 1, 1000, .inl o_9))] H1 := hP
  have hD : va_D A [(mo, .inr (12, [.int 0, .ref m1, .ref m2, .ref m3, .ref m4, .ref m5, .int 12, .int 0, .int 0, .int 0, .int 0, .long 0, .int 0, .int 0, .int 0, .int (-1), .ref m16, .ref m17, .ref m18, .ref m19, .ref m20, .ref m21, .ref m22, .ref m23, .int 0, .ref m25, .ref m26, .ref m27, .ref m28, .ref m29, .int 0, .ref m31, .ref m32, .ref m33, .int 0, .int 0, .int 0, .ref m37, .ref m38, .ref m39, .ref m40, .long 0])), (m5, .inl (k 1, 1000, .inl o_9))] := hD
  generalize H1 = H at hP hS ⊢
  clear hw
  refine lv_aload_n hx hb dX12_feed_35 rfl (lv_at hl 0 rfl) ?_
  refine lv_iload hx hb dX12_feed_36 (lv_at hl 4 rfl) ?_
  have hPc := hP.sub (ws' := [(mo, .inr (12, [.int 0, .ref m1, .ref m2, .ref m3, .ref m4, .ref m5, .int 12, .int 0, .int 0, .int 0, .int 0, .long 0, .int 0, .int 0, .int 0, .int (-1), .ref m16, .ref m17, .ref m18, .ref m19, .ref m20, .ref m21, .ref m22, .ref m23, .int 0, .ref m25, .ref m26, .ref m27, .ref m28, .ref m29, .int 0, .ref m31, .ref m32, .ref m33, .int 0, .int 0, .int 0, .ref m37, .ref m38, .ref m39, .ref m40, .long 0])), (m5, .inl (k 1, 1000, .inl o_9))]) [0, 1] rfl
  have hDc := hD.sub (ws' := [(mo, .inr (12, [.int 0, .ref m1, .ref m2, .ref m3, .ref m4, .ref m5, .int 12, .int 0, .int 0, .int 0, .int 0, .long 0, .int 0, .int 0, .int 0, .int (-1), .ref m16, .ref m17, .ref m18, .ref m19, .ref m20, .ref m21, .ref m22, .ref m23, .int 0, .ref m25, .ref m26, .ref m27, .ref m28, .ref m29, .int 0, .ref m31, .ref m32, .ref m33, .int 0, .int 0, .int 0, .ref m37, .ref m38, .ref m39, .ref m40, .long 0])), (m5, .inl (k 1, 1000, .inl o_9))]) [0, 1] (by decide) rfl
  have hFc := va_free (wc := [(mo, .inr (12, [.int 0, .ref m1, .ref m2, .ref m3, .ref m4, .ref m5, .int 12, .int 0, .int 0, .int 0, .int 0, .long 0, .int 0, .int 0, .int 0, .int (-1), .ref m16, .ref m17, .ref m18, .ref m19, .ref m20, .ref m21, .ref m22, .ref m23, .int 0, .ref m25, .ref m26, .ref m27, .ref m28, .ref m29, .int 0, .ref m31, .ref m32, .ref m33, .int 0, .int 0, .int 0, .ref m37, .ref m38, .ref m39, .ref m40, .long 0])), (m5, .inl (k 1, 1000, .inl o_9))]) hD hS hA [0, 1] rfl
  refine va_callv (va_runV (C := RX12) (As := [.int p3]) (rest := []) ⟨hx, hb, hml, hown, hts⟩ (c_X12_four_12 l D k mo m1 m2 m3 m4 m5 m16 m17 m18 m19 m20 m21 m22 m23 m25 m26 m27 m28 m29 m31 m32 m33 m37 m38 m39 m40 o_9 p3 H.size) (cwV 1 hts (gV tw_6_206 tw_6_208 tw_p_35 tw_1_13 tw_6_209) rfl rfl rfl hdV_X12_four ⟨Nat.le_of_ble_eq_true rfl, Nat.le_of_ble_eq_true rfl⟩) (cz_V hK hPc hDc hN (ci := 12) (q0 := 0) rfl rfl [.int p3]) rfl rfl hl.1 rfl (lv_room (Nat.le_of_ble_eq_true rfl)) dX12_feed_38 ⟨Nat.le_of_ble_eq_true rfl, Nat.le_of_ble_eq_true rfl⟩) hS (fun q _ h => hFc q h) hFc (fun uZ tZ H1 locs ht hvm hw hB hz1 hk1 hS => ?_)
  obtain ⟨o_12, rfl⟩ : ∃ z, z = uZ := ⟨_, rfl⟩
  obtain ⟨hP1, hK1, hD1⟩ := hB
  rw [ht] at hP1
  obtain ⟨hP, hD⟩ := va_join (wr := []) (w1 := [(mo, .inr (12, [.int 0, .ref m1, .ref m2, .ref m3, .ref m4, .ref m5, .int 16, .int 0, .int 0, .int 0, .int 0, .long 0, .int 0, .int 0, .int 0, .int (-1), .ref m16, .ref m17, .ref m18, .ref m19, .ref m20, .ref m21, .ref m22, .ref m23, .int 0, .ref m25, .ref m26, .ref m27, .ref m28, .ref m29, .int 0, .ref m31, .ref m32, .ref m33, .int 0, .int 0, .int 0, .ref m37, .ref m38, .ref m39, .ref m40, .long 0])), (m5, .inl (k 1, 1000, .inl o_12))]) hP hD [0, 1] [] rfl rfl (by decide) (by decide) hk1 hFc hP1 hD1
  clear hK1 hP1 hD1 hPc hDc hFc
  clear hk1 hz1 ht hvm
  have hP : va_P D vwCl [(mo, .inr (12, [.int 0, .ref m1, .ref m2, .ref m3, .ref m4, .ref m5, .int 16, .int 0, .int 0, .int 0, .int 0, .long 0, .int 0, .int 0, .int 0, .int (-1), .ref m16, .ref m17, .ref m18, .ref m19, .ref m20, .ref m21, .ref m22, .ref m23, .int 0, .ref m25, .ref m26, .ref m27, .ref m28, .ref m29, .int 0, .ref m31, .ref m32, .ref m33, .int 0, .int 0, .int 0, .ref m37, .ref m38, .ref m39, .ref m40, .long 0])), (m5, .inl (k 1, 1000, .inl o_12))] H1 := hP
  have hD : va_D A [(mo, .inr (12, [.int 0, .ref m1, .ref m2, .ref m3, .ref m4, .ref m5, .int 16, .int 0, .int 0, .int 0, .int 0, .long 0, .int 0, .int 0, .int 0, .int (-1), .ref m16, .ref m17, .ref m18, .ref m19, .ref m20, .ref m21, .ref m22, .ref m23, .int 0, .ref m25, .ref m26, .ref m27, .ref m28, .ref m29, .int 0, .ref m31, .ref m32, .ref m33, .int 0, .int 0, .int 0, .ref m37, .ref m38, .ref m39, .ref m40, .long 0])), (m5, .inl (k 1, 1000, .inl o_12))] := hD
  generalize H1 = H at hP hS ⊢
  clear hw
  refine lv_aload_n hx hb dX12_feed_41 rfl (lv_at hl 0 rfl) ?_
  refine lv_iload hx hb dX12_feed_42 (lv_at hl 5 rfl) ?_
  have hPc := hP.sub (ws' := [(mo, .inr (12, [.int 0, .ref m1, .ref m2, .ref m3, .ref m4, .ref m5, .int 16, .int 0, .int 0, .int 0, .int 0, .long 0, .int 0, .int 0, .int 0, .int (-1), .ref m16, .ref m17, .ref m18, .ref m19, .ref m20, .ref m21, .ref m22, .ref m23, .int 0, .ref m25, .ref m26, .ref m27, .ref m28, .ref m29, .int 0, .ref m31, .ref m32, .ref m33, .int 0, .int 0, .int 0, .ref m37, .ref m38, .ref m39, .ref m40, .long 0])), (m5, .inl (k 1, 1000, .inl o_12))]) [0, 1] rfl
  have hDc := hD.sub (ws' := [(mo, .inr (12, [.int 0, .ref m1, .ref m2, .ref m3, .ref m4, .ref m5, .int 16, .int 0, .int 0, .int 0, .int 0, .long 0, .int 0, .int 0, .int 0, .int (-1), .ref m16, .ref m17, .ref m18, .ref m19, .ref m20, .ref m21, .ref m22, .ref m23, .int 0, .ref m25, .ref m26, .ref m27, .ref m28, .ref m29, .int 0, .ref m31, .ref m32, .ref m33, .int 0, .int 0, .int 0, .ref m37, .ref m38, .ref m39, .ref m40, .long 0])), (m5, .inl (k 1, 1000, .inl o_12))]) [0, 1] (by decide) rfl
  have hFc := va_free (wc := [(mo, .inr (12, [.int 0, .ref m1, .ref m2, .ref m3, .ref m4, .ref m5, .int 16, .int 0, .int 0, .int 0, .int 0, .long 0, .int 0, .int 0, .int 0, .int (-1), .ref m16, .ref m17, .ref m18, .ref m19, .ref m20, .ref m21, .ref m22, .ref m23, .int 0, .ref m25, .ref m26, .ref m27, .ref m28, .ref m29, .int 0, .ref m31, .ref m32, .ref m33, .int 0, .int 0, .int 0, .ref m37, .ref m38, .ref m39, .ref m40, .long 0])), (m5, .inl (k 1, 1000, .inl o_12))]) hD hS hA [0, 1] rfl
  refine va_callv (va_runV (C := RX12) (As := [.int p4]) (rest := []) ⟨hx, hb, hml, hown, hts⟩ (c_X12_four_16 l D k mo m1 m2 m3 m4 m5 m16 m17 m18 m19 m20 m21 m22 m23 m25 m26 m27 m28 m29 m31 m32 m33 m37 m38 m39 m40 o_12 p4 H.size) (cwV 1 hts (gV tw_6_206 tw_6_208 tw_p_35 tw_1_13 tw_6_209) rfl rfl rfl hdV_X12_four ⟨Nat.le_of_ble_eq_true rfl, Nat.le_of_ble_eq_true rfl⟩) (cz_V hK hPc hDc hN (ci := 12) (q0 := 0) rfl rfl [.int p4]) rfl rfl hl.1 rfl (lv_room (Nat.le_of_ble_eq_true rfl)) dX12_feed_44 ⟨Nat.le_of_ble_eq_true rfl, Nat.le_of_ble_eq_true rfl⟩) hS (fun q _ h => hFc q h) hFc (fun uZ tZ H1 locs ht hvm hw hB hz1 hk1 hS => ?_)
  obtain ⟨o_15, rfl⟩ : ∃ z, z = uZ := ⟨_, rfl⟩
  obtain ⟨hP1, hK1, hD1⟩ := hB
  rw [ht] at hP1
  obtain ⟨hP, hD⟩ := va_join (wr := []) (w1 := [(mo, .inr (12, [.int 0, .ref m1, .ref m2, .ref m3, .ref m4, .ref m5, .int 20, .int 0, .int 0, .int 0, .int 0, .long 0, .int 0, .int 0, .int 0, .int (-1), .ref m16, .ref m17, .ref m18, .ref m19, .ref m20, .ref m21, .ref m22, .ref m23, .int 0, .ref m25, .ref m26, .ref m27, .ref m28, .ref m29, .int 0, .ref m31, .ref m32, .ref m33, .int 0, .int 0, .int 0, .ref m37, .ref m38, .ref m39, .ref m40, .long 0])), (m5, .inl (k 1, 1000, .inl o_15))]) hP hD [0, 1] [] rfl rfl (by decide) (by decide) hk1 hFc hP1 hD1
  clear hK1 hP1 hD1 hPc hDc hFc
  clear hk1 hz1 ht hvm
  have hP : va_P D vwCl [(mo, .inr (12, [.int 0, .ref m1, .ref m2, .ref m3, .ref m4, .ref m5, .int 20, .int 0, .int 0, .int 0, .int 0, .long 0, .int 0, .int 0, .int 0, .int (-1), .ref m16, .ref m17, .ref m18, .ref m19, .ref m20, .ref m21, .ref m22, .ref m23, .int 0, .ref m25, .ref m26, .ref m27, .ref m28, .ref m29, .int 0, .ref m31, .ref m32, .ref m33, .int 0, .int 0, .int 0, .ref m37, .ref m38, .ref m39, .ref m40, .long 0])), (m5, .inl (k 1, 1000, .inl o_15))] H1 := hP
  have hD : va_D A [(mo, .inr (12, [.int 0, .ref m1, .ref m2, .ref m3, .ref m4, .ref m5, .int 20, .int 0, .int 0, .int 0, .int 0, .long 0, .int 0, .int 0, .int 0, .int (-1), .ref m16, .ref m17, .ref m18, .ref m19, .ref m20, .ref m21, .ref m22, .ref m23, .int 0, .ref m25, .ref m26, .ref m27, .ref m28, .ref m29, .int 0, .ref m31, .ref m32, .ref m33, .int 0, .int 0, .int 0, .ref m37, .ref m38, .ref m39, .ref m40, .long 0])), (m5, .inl (k 1, 1000, .inl o_15))] := hD
  generalize H1 = H at hP hS ⊢
  clear hw
  refine lv_aload_n hx hb dX12_feed_47 rfl (lv_at hl 0 rfl) ?_
  refine va_get (D := D) (ci := 12) (v := .int 20) (C := RX12) (T := TX12) (N := 42) hx hb hts iT_X12 hown hK hP 0 rfl rfl 6 (by decide) (hts _ tw_6_59) (fun _ h9 => h9) rfl dX12_feed_48 ?_
  have hP9 := hP.sub (ws' := []) [] rfl
  have hD9 := hD.sub (ws' := []) [] (by decide) rfl
  exact W.iret (v := 20) hx hb hr (fun tZ ht hW => ⟨⟨20, (), rfl, rfl, by rw [ht]; exact hP9, va_K.moved hW.alike hK, hD9⟩, hS.F ht⟩) hS.2.2 dX12_feed_51
set_option maxHeartbeats 4000000 in
set_option maxRecDepth 100000 in
theorem c_X12_end (l : Launch) (D : va_G) (k : Nat → ClassId) (mo : Nat) (m1 : Nat) (m2 : Nat) (m3 : Nat) (m4 : Nat) (m5 : Nat) (m16 : Nat) (m17 : Nat) (m18 : Nat) (m19 : Nat) (m20 : Nat) (m21 : Nat) (m22 : Nat) (m23 : Nat) (m25 : Nat) (m26 : Nat) (m27 : Nat) (m28 : Nat) (m29 : Nat) (m31 : Nat) (m32 : Nat) (m33 : Nat) (m37 : Nat) (m38 : Nat) (m39 : Nat) (m40 : Nat) (p0 : Int32) (sz : Nat) : Met l yX12_end (ww yX12_end cX12_end 2 (some .int)) ({ frames := 1, cells := 0, slots := 0, locals := 25 }) (Pre0 D k [(mo, .inr (12, [.int 0, .ref m1, .ref m2, .ref m3, .ref m4, .ref m5, .int 0, .int 0, .int 0, .int 0, .int 0, .long 0, .int 0, .int 0, .int 0, .int (-1), .ref m16, .ref m17, .ref m18, .ref m19, .ref m20, .ref m21, .ref m22, .ref m23, .int 0, .ref m25, .ref m26, .ref m27, .ref m28, .ref m29, .int 0, .ref m31, .ref m32, .ref m33, .int 0, .int 0, .int 0, .ref m37, .ref m38, .ref m39, .ref m40, .long 0]))] sz [.ref mo, .int p0]) (va_Qi (fun (r : Int32) (_ : Unit) => r = sp_end p0) (fun (_ : Unit) tZ => Bw D k (va_A [(mo, .inr (12, [.int 0, .ref m1, .ref m2, .ref m3, .ref m4, .ref m5, .int 0, .int 0, .int 0, .int 0, .int 0, .long 0, .int 0, .int 0, .int 0, .int (-1), .ref m16, .ref m17, .ref m18, .ref m19, .ref m20, .ref m21, .ref m22, .ref m23, .int 0, .ref m25, .ref m26, .ref m27, .ref m28, .ref m29, .int 0, .ref m31, .ref m32, .ref m33, .int 0, .int 0, .int 0, .ref m37, .ref m38, .ref m39, .ref m40, .long 0]))] sz) [] tZ) (va_A [(mo, .inr (12, [.int 0, .ref m1, .ref m2, .ref m3, .ref m4, .ref m5, .int 0, .int 0, .int 0, .int 0, .int 0, .long 0, .int 0, .int 0, .int 0, .int (-1), .ref m16, .ref m17, .ref m18, .ref m19, .ref m20, .ref m21, .ref m22, .ref m23, .int 0, .ref m25, .ref m26, .ref m27, .ref m28, .ref m29, .int 0, .ref m31, .ref m32, .ref m33, .int 0, .int 0, .int 0, .ref m37, .ref m38, .ref m39, .ref m40, .long 0]))] sz)) 0 0 (va_A [(mo, .inr (12, [.int 0, .ref m1, .ref m2, .ref m3, .ref m4, .ref m5, .int 0, .int 0, .int 0, .int 0, .int 0, .long 0, .int 0, .int 0, .int 0, .int (-1), .ref m16, .ref m17, .ref m18, .ref m19, .ref m20, .ref m21, .ref m22, .ref m23, .int 0, .ref m25, .ref m26, .ref m27, .ref m28, .ref m29, .int 0, .ref m31, .ref m32, .ref m33, .int 0, .int 0, .int 0, .ref m37, .ref m38, .ref m39, .ref m40, .long 0]))] sz) := by
  refine Met.ofW (cc := cX12_end) (maxL := 2) (ret := (some .int)) (by decide +kernel) rfl ?_
  intro p e s m args below meth c s₁ B hml hv
  obtain ⟨rfl, hsz, hP, hK, hD0, hN⟩ := hv
  have hx := B.exec
  have hb := B.bytes
  have hr := B.returns
  have hts : ∀ w ∈ TT, w.before _ s = true := fun w h => atoms_spec (ws := ww yX12_end cX12_end 2 (some .int)) B.pre w (List.mem_cons_of_mem _ h)
  have hown : s.vm.findClass RX12 = some m.cls := findClass_of_methodNamed B.named
  have hlocks := B.notSynchronized
  subst hsz
  have hD := hD0.self (sz := s.heap.size)
  generalize hAe : va_A [(mo, .inr (12, [.int 0, .ref m1, .ref m2, .ref m3, .ref m4, .ref m5, .int 0, .int 0, .int 0, .int 0, .int 0, .long 0, .int 0, .int 0, .int 0, .int (-1), .ref m16, .ref m17, .ref m18, .ref m19, .ref m20, .ref m21, .ref m22, .ref m23, .int 0, .ref m25, .ref m26, .ref m27, .ref m28, .ref m29, .int 0, .ref m31, .ref m32, .ref m33, .int 0, .int 0, .int 0, .ref m37, .ref m38, .ref m39, .ref m40, .long 0]))] s.heap.size = A at hD ⊢
  have hA : ∀ q : Nat, s.heap.size ≤ q → A q := fun q h => by rw [← hAe]; exact Or.inr h
  have hS : va_S A s.heap s.heap [] := va_S.rf
  have hl := lv_entry ([.ref mo, .int p0]) (n := 2) (Nat.le_of_ble_eq_true rfl)
  rw [lg_entry_eq]
  generalize (lg_sl ([.ref mo, .int p0]) ++ List.replicate (2 - (lg_sl ([.ref mo, .int p0])).length) Slot.unset).toArray = ls at hl ⊢
  have hl : lv_has ls 2 [(0, .ref mo), (1, .int p0)] := hl
  refine lv_aload_n hx hb dX12_end_0 rfl (lv_at hl 0 rfl) ?_
  refine lv_iconst (v := 0) hx hb dX12_end_1 (by decide) ?_
  refine va_put (D := D) (ci := 12) (v := .int 0) (ty := tyX12 0) (C := RX12) (T := TX12) (N := 42) hx hb hts iT_X12 tyX12 tyX12_ok nmX12 hown hK hP hD hS 0 rfl rfl 0 (by decide) (hts _ tw_6_53) (fun _ h9 => h9) rfl (tyX12_ok 0 (by decide)) rfl rfl (Nat.le_of_ble_eq_true rfl) dX12_end_2 (fun H locs hP hD hS => ?_)
  have hP : va_P D vwCl [(mo, .inr (12, [.int 0, .ref m1, .ref m2, .ref m3, .ref m4, .ref m5, .int 0, .int 0, .int 0, .int 0, .int 0, .long 0, .int 0, .int 0, .int 0, .int (-1), .ref m16, .ref m17, .ref m18, .ref m19, .ref m20, .ref m21, .ref m22, .ref m23, .int 0, .ref m25, .ref m26, .ref m27, .ref m28, .ref m29, .int 0, .ref m31, .ref m32, .ref m33, .int 0, .int 0, .int 0, .ref m37, .ref m38, .ref m39, .ref m40, .long 0]))] H := hP
  have hD : va_D A [(mo, .inr (12, [.int 0, .ref m1, .ref m2, .ref m3, .ref m4, .ref m5, .int 0, .int 0, .int 0, .int 0, .int 0, .long 0, .int 0, .int 0, .int 0, .int (-1), .ref m16, .ref m17, .ref m18, .ref m19, .ref m20, .ref m21, .ref m22, .ref m23, .int 0, .ref m25, .ref m26, .ref m27, .ref m28, .ref m29, .int 0, .ref m31, .ref m32, .ref m33, .int 0, .int 0, .int 0, .ref m37, .ref m38, .ref m39, .ref m40, .long 0]))] := hD
  refine lv_iload_n hx hb dX12_end_5 rfl (lv_at hl 1 rfl) ?_
  refine lv_i2l (v := p0.toInt64) hx hb dX12_end_6 rfl ?_
  refine lv_lconst (v := 0) hx hb dX12_end_7 (by decide) ?_
  refine lv_aload_n hx hb dX12_end_8 rfl (lv_at hl 0 rfl) ?_
  refine va_get (D := D) (ci := 12) (v := .int 0) (C := RX12) (T := TX12) (N := 42) hx hb hts iT_X12 hown hK hP 0 rfl rfl 6 (by decide) (hts _ tw_6_59) (fun _ h9 => h9) rfl dX12_end_9 ?_
  refine lv_i2l (v := 0) hx hb dX12_end_12 (by decide) ?_
  have hPc := hP.sub (ws' := []) [] rfl
  have hDc := hD.sub (ws' := []) [] (by decide) rfl
  have hFc := va_free (wc := []) hD hS hA [] rfl
  refine va_calli (va_runS (As := [.long p0.toInt64, .long 0, .long 0]) (rest := []) ⟨hx, hb, hml, hown, hts⟩ (c_X12_in l D k p0.toInt64 0 0 H.size) (va_cwS 3 hts (gS tw_6_188 tw_6_189 tw_1_13 tw_6_190) rfl rfl rfl hdS_X12_in ⟨Nat.le_of_ble_eq_true rfl, Nat.le_of_ble_eq_true rfl⟩) (cz_S hK hPc hDc hN [.long p0.toInt64, .long 0, .long 0]) rfl rfl hl.1 rfl (lv_room (Nat.le_of_ble_eq_true rfl)) dX12_end_13 ⟨Nat.le_of_ble_eq_true rfl, Nat.le_of_ble_eq_true rfl⟩) hS (fun q _ h => hFc q h) hFc (fun r_1 uZ tZ H1 locs ht hvm hw hB hz1 hk1 hS => ?_)
  obtain ⟨hP1, hK1, hD1⟩ := hB
  rw [ht] at hP1
  obtain ⟨hP, hD⟩ := va_join (wr := [(mo, .inr (12, [.int 0, .ref m1, .ref m2, .ref m3, .ref m4, .ref m5, .int 0, .int 0, .int 0, .int 0, .int 0, .long 0, .int 0, .int 0, .int 0, .int (-1), .ref m16, .ref m17, .ref m18, .ref m19, .ref m20, .ref m21, .ref m22, .ref m23, .int 0, .ref m25, .ref m26, .ref m27, .ref m28, .ref m29, .int 0, .ref m31, .ref m32, .ref m33, .int 0, .int 0, .int 0, .ref m37, .ref m38, .ref m39, .ref m40, .long 0]))]) (w1 := []) hP hD [] [0] rfl rfl (by decide) (by decide) hk1 hFc hP1 hD1
  clear hK1 hP1 hD1 hPc hDc hFc
  clear hk1 hz1 ht hvm
  have hP : va_P D vwCl [(mo, .inr (12, [.int 0, .ref m1, .ref m2, .ref m3, .ref m4, .ref m5, .int 0, .int 0, .int 0, .int 0, .int 0, .long 0, .int 0, .int 0, .int 0, .int (-1), .ref m16, .ref m17, .ref m18, .ref m19, .ref m20, .ref m21, .ref m22, .ref m23, .int 0, .ref m25, .ref m26, .ref m27, .ref m28, .ref m29, .int 0, .ref m31, .ref m32, .ref m33, .int 0, .int 0, .int 0, .ref m37, .ref m38, .ref m39, .ref m40, .long 0]))] H1 := hP
  have hD : va_D A [(mo, .inr (12, [.int 0, .ref m1, .ref m2, .ref m3, .ref m4, .ref m5, .int 0, .int 0, .int 0, .int 0, .int 0, .long 0, .int 0, .int 0, .int 0, .int (-1), .ref m16, .ref m17, .ref m18, .ref m19, .ref m20, .ref m21, .ref m22, .ref m23, .int 0, .ref m25, .ref m26, .ref m27, .ref m28, .ref m29, .int 0, .ref m31, .ref m32, .ref m33, .int 0, .int 0, .int 0, .ref m37, .ref m38, .ref m39, .ref m40, .long 0]))] := hD
  generalize H1 = H at hP hS ⊢
  have hw_2 : (r_1.toInt = 1 ∧ 0 ≤ p0.toInt64.toInt ∧ p0.toInt64.toInt ≤ 0) ∨ (r_1.toInt = 0 ∧ (p0.toInt64.toInt < 0 ∨ 0 < p0.toInt64.toInt)) := hw
  simp only [Int32.toInt_toInt64] at hw_2
  clear hw
  refine lv_if_ne (tgt := 21) hx hb dX12_end_16 (by decide) (fun h_3 => ?_) (fun h_3 => ?_)
  · skip
    have zh_3 : ¬ r_1.toInt = 0 := z_ne h_3
    refine lv_aload_n hx hb dX12_end_21 rfl (lv_at hl 0 rfl) ?_
    refine lv_iload_n hx hb dX12_end_22 rfl (lv_at hl 1 rfl) ?_
    refine va_put (D := D) (ci := 12) (v := .int p0) (ty := tyX12 6) (C := RX12) (T := TX12) (N := 42) hx hb hts iT_X12 tyX12 tyX12_ok nmX12 hown hK hP hD hS 0 rfl rfl 6 (by decide) (hts _ tw_6_59) (fun _ h9 => h9) rfl (tyX12_ok 6 (by decide)) rfl rfl (Nat.le_of_ble_eq_true rfl) dX12_end_23 (fun H locs hP hD hS => ?_)
    have hP : va_P D vwCl [(mo, .inr (12, [.int 0, .ref m1, .ref m2, .ref m3, .ref m4, .ref m5, .int p0, .int 0, .int 0, .int 0, .int 0, .long 0, .int 0, .int 0, .int 0, .int (-1), .ref m16, .ref m17, .ref m18, .ref m19, .ref m20, .ref m21, .ref m22, .ref m23, .int 0, .ref m25, .ref m26, .ref m27, .ref m28, .ref m29, .int 0, .ref m31, .ref m32, .ref m33, .int 0, .int 0, .int 0, .ref m37, .ref m38, .ref m39, .ref m40, .long 0]))] H := hP
    have hD : va_D A [(mo, .inr (12, [.int 0, .ref m1, .ref m2, .ref m3, .ref m4, .ref m5, .int p0, .int 0, .int 0, .int 0, .int 0, .long 0, .int 0, .int 0, .int 0, .int (-1), .ref m16, .ref m17, .ref m18, .ref m19, .ref m20, .ref m21, .ref m22, .ref m23, .int 0, .ref m25, .ref m26, .ref m27, .ref m28, .ref m29, .int 0, .ref m31, .ref m32, .ref m33, .int 0, .int 0, .int 0, .ref m37, .ref m38, .ref m39, .ref m40, .long 0]))] := hD
    refine lv_iload_n hx hb dX12_end_26 rfl (lv_at hl 1 rfl) ?_
    have hP9 := hP.sub (ws' := []) [] rfl
    have hD9 := hD.sub (ws' := []) [] (by decide) rfl
    exact W.iret (v := p0) hx hb hr (fun tZ ht hW => ⟨⟨p0, (), rfl, (show p0 = sp_end p0 from by unfold sp_end; first | (rw [if_neg (by omega)]; exact Int32.toInt_inj.mp (show p0.toInt = 0 from by omega)) | (rw [if_pos (by omega)]; exact Int32.toInt_inj.mp (show p0.toInt = 0 from by omega))), by rw [ht]; exact hP9, va_K.moved hW.alike hK, hD9⟩, hS.F ht⟩) hS.2.2 dX12_end_27
  · skip
    have zh_3 : r_1.toInt = 0 := z_eq h_3
    refine lv_iconst (v := (-1)) hx hb dX12_end_19 (by decide) ?_
    have hP9 := hP.sub (ws' := []) [] rfl
    have hD9 := hD.sub (ws' := []) [] (by decide) rfl
    exact W.iret (v := (-1)) hx hb hr (fun tZ ht hW => ⟨⟨(-1), (), rfl, (show (-1) = sp_end p0 from by unfold sp_end; first | (rw [if_neg (by omega)]) | (rw [if_pos (by omega)])), by rw [ht]; exact hP9, va_K.moved hW.alike hK, hD9⟩, hS.F ht⟩) hS.2.2 dX12_end_20
set_option maxHeartbeats 4000000 in
set_option maxRecDepth 100000 in
theorem c_X12_fault (l : Launch) (D : va_G) (k : Nat → ClassId) (mo : Nat) (m1 : Nat) (m2 : Nat) (m3 : Nat) (m4 : Nat) (m5 : Nat) (m16 : Nat) (m17 : Nat) (m18 : Nat) (m19 : Nat) (m20 : Nat) (m21 : Nat) (m22 : Nat) (m23 : Nat) (m25 : Nat) (m26 : Nat) (m27 : Nat) (m28 : Nat) (m29 : Nat) (m31 : Nat) (m32 : Nat) (m33 : Nat) (m37 : Nat) (m38 : Nat) (m39 : Nat) (m40 : Nat) (p0 : Int32) (sz : Nat) : Met l yX12_fault (ww yX12_fault cX12_fault 2 (some .int)) ({ frames := 0, cells := 0, slots := 0, locals := 0 }) (Pre0 D k [(mo, .inr (12, [.int 0, .ref m1, .ref m2, .ref m3, .ref m4, .ref m5, .int 0, .int 0, .int 0, .int 0, .int 0, .long 0, .int 0, .int 0, .int 0, .int (-1), .ref m16, .ref m17, .ref m18, .ref m19, .ref m20, .ref m21, .ref m22, .ref m23, .int 0, .ref m25, .ref m26, .ref m27, .ref m28, .ref m29, .int 0, .ref m31, .ref m32, .ref m33, .int 0, .int 0, .int 0, .ref m37, .ref m38, .ref m39, .ref m40, .long 0]))] sz [.ref mo, .int p0]) (va_Qi (fun (r : Int32) (_ : Unit) => r = sp_fault p0) (fun (_ : Unit) tZ => Bw D k (va_A [(mo, .inr (12, [.int 0, .ref m1, .ref m2, .ref m3, .ref m4, .ref m5, .int 0, .int 0, .int 0, .int 0, .int 0, .long 0, .int 0, .int 0, .int 0, .int (-1), .ref m16, .ref m17, .ref m18, .ref m19, .ref m20, .ref m21, .ref m22, .ref m23, .int 0, .ref m25, .ref m26, .ref m27, .ref m28, .ref m29, .int 0, .ref m31, .ref m32, .ref m33, .int 0, .int 0, .int 0, .ref m37, .ref m38, .ref m39, .ref m40, .long 0]))] sz) [(mo, .inr (12, [.int 0, .ref m1, .ref m2, .ref m3, .ref m4, .ref m5, .int 0, .int 0, .int 0, .int 0, .int 0, .long 0, .int 0, .int 0, .int 0, .int (-1), .ref m16, .ref m17, .ref m18, .ref m19, .ref m20, .ref m21, .ref m22, .ref m23, .int 0, .ref m25, .ref m26, .ref m27, .ref m28, .ref m29, .int 0, .ref m31, .ref m32, .ref m33, .int 0, .int 0, .int 0, .ref m37, .ref m38, .ref m39, .ref m40, .long 0]))] tZ) (va_A [(mo, .inr (12, [.int 0, .ref m1, .ref m2, .ref m3, .ref m4, .ref m5, .int 0, .int 0, .int 0, .int 0, .int 0, .long 0, .int 0, .int 0, .int 0, .int (-1), .ref m16, .ref m17, .ref m18, .ref m19, .ref m20, .ref m21, .ref m22, .ref m23, .int 0, .ref m25, .ref m26, .ref m27, .ref m28, .ref m29, .int 0, .ref m31, .ref m32, .ref m33, .int 0, .int 0, .int 0, .ref m37, .ref m38, .ref m39, .ref m40, .long 0]))] sz)) 0 0 (va_A [(mo, .inr (12, [.int 0, .ref m1, .ref m2, .ref m3, .ref m4, .ref m5, .int 0, .int 0, .int 0, .int 0, .int 0, .long 0, .int 0, .int 0, .int 0, .int (-1), .ref m16, .ref m17, .ref m18, .ref m19, .ref m20, .ref m21, .ref m22, .ref m23, .int 0, .ref m25, .ref m26, .ref m27, .ref m28, .ref m29, .int 0, .ref m31, .ref m32, .ref m33, .int 0, .int 0, .int 0, .ref m37, .ref m38, .ref m39, .ref m40, .long 0]))] sz) := by
  refine Met.ofW (cc := cX12_fault) (maxL := 2) (ret := (some .int)) (by decide +kernel) rfl ?_
  intro p e s m args below meth c s₁ B hml hv
  obtain ⟨rfl, hsz, hP, hK, hD0, hN⟩ := hv
  have hx := B.exec
  have hb := B.bytes
  have hr := B.returns
  have hts : ∀ w ∈ TT, w.before _ s = true := fun w h => atoms_spec (ws := ww yX12_fault cX12_fault 2 (some .int)) B.pre w (List.mem_cons_of_mem _ h)
  have hown : s.vm.findClass RX12 = some m.cls := findClass_of_methodNamed B.named
  have hlocks := B.notSynchronized
  subst hsz
  have hD := hD0.self (sz := s.heap.size)
  generalize hAe : va_A [(mo, .inr (12, [.int 0, .ref m1, .ref m2, .ref m3, .ref m4, .ref m5, .int 0, .int 0, .int 0, .int 0, .int 0, .long 0, .int 0, .int 0, .int 0, .int (-1), .ref m16, .ref m17, .ref m18, .ref m19, .ref m20, .ref m21, .ref m22, .ref m23, .int 0, .ref m25, .ref m26, .ref m27, .ref m28, .ref m29, .int 0, .ref m31, .ref m32, .ref m33, .int 0, .int 0, .int 0, .ref m37, .ref m38, .ref m39, .ref m40, .long 0]))] s.heap.size = A at hD ⊢
  have hA : ∀ q : Nat, s.heap.size ≤ q → A q := fun q h => by rw [← hAe]; exact Or.inr h
  have hS : va_S A s.heap s.heap [] := va_S.rf
  have hl := lv_entry ([.ref mo, .int p0]) (n := 2) (Nat.le_of_ble_eq_true rfl)
  rw [lg_entry_eq]
  generalize (lg_sl ([.ref mo, .int p0]) ++ List.replicate (2 - (lg_sl ([.ref mo, .int p0])).length) Slot.unset).toArray = ls at hl ⊢
  have hl : lv_has ls 2 [(0, .ref mo), (1, .int p0)] := hl
  refine lv_aload_n hx hb dX12_fault_0 rfl (lv_at hl 0 rfl) ?_
  refine lv_iconst (v := 0) hx hb dX12_fault_1 (by decide) ?_
  refine va_put (D := D) (ci := 12) (v := .int 0) (ty := tyX12 0) (C := RX12) (T := TX12) (N := 42) hx hb hts iT_X12 tyX12 tyX12_ok nmX12 hown hK hP hD hS 0 rfl rfl 0 (by decide) (hts _ tw_6_53) (fun _ h9 => h9) rfl (tyX12_ok 0 (by decide)) rfl rfl (Nat.le_of_ble_eq_true rfl) dX12_fault_2 (fun H locs hP hD hS => ?_)
  have hP : va_P D vwCl [(mo, .inr (12, [.int 0, .ref m1, .ref m2, .ref m3, .ref m4, .ref m5, .int 0, .int 0, .int 0, .int 0, .int 0, .long 0, .int 0, .int 0, .int 0, .int (-1), .ref m16, .ref m17, .ref m18, .ref m19, .ref m20, .ref m21, .ref m22, .ref m23, .int 0, .ref m25, .ref m26, .ref m27, .ref m28, .ref m29, .int 0, .ref m31, .ref m32, .ref m33, .int 0, .int 0, .int 0, .ref m37, .ref m38, .ref m39, .ref m40, .long 0]))] H := hP
  have hD : va_D A [(mo, .inr (12, [.int 0, .ref m1, .ref m2, .ref m3, .ref m4, .ref m5, .int 0, .int 0, .int 0, .int 0, .int 0, .long 0, .int 0, .int 0, .int 0, .int (-1), .ref m16, .ref m17, .ref m18, .ref m19, .ref m20, .ref m21, .ref m22, .ref m23, .int 0, .ref m25, .ref m26, .ref m27, .ref m28, .ref m29, .int 0, .ref m31, .ref m32, .ref m33, .int 0, .int 0, .int 0, .ref m37, .ref m38, .ref m39, .ref m40, .long 0]))] := hD
  refine lv_iload_n hx hb dX12_fault_5 rfl (lv_at hl 1 rfl) ?_
  refine lv_if_ne (tgt := 16) hx hb dX12_fault_6 (by decide) (fun h_1 => ?_) (fun h_1 => ?_)
  · skip
    have zh_1 : ¬ p0.toInt = 0 := z_ne h_1
    refine lv_iload_n hx hb dX12_fault_16 rfl (lv_at hl 1 rfl) ?_
    refine lv_iconst (v := 1) hx hb dX12_fault_17 (by decide) ?_
    refine lv_icmp_ne (tgt := 28) hx hb dX12_fault_18 (by decide) (fun h_2 => ?_) (fun h_2 => ?_)
    · skip
      have zh_2 : ¬ p0.toInt = 1 := z_ne h_2
      refine lv_iconst (v := (-1)) hx hb dX12_fault_28 (by decide) ?_
      have hP9 := hP.sub (ws' := [(mo, .inr (12, [.int 0, .ref m1, .ref m2, .ref m3, .ref m4, .ref m5, .int 0, .int 0, .int 0, .int 0, .int 0, .long 0, .int 0, .int 0, .int 0, .int (-1), .ref m16, .ref m17, .ref m18, .ref m19, .ref m20, .ref m21, .ref m22, .ref m23, .int 0, .ref m25, .ref m26, .ref m27, .ref m28, .ref m29, .int 0, .ref m31, .ref m32, .ref m33, .int 0, .int 0, .int 0, .ref m37, .ref m38, .ref m39, .ref m40, .long 0]))]) [0] rfl
      have hD9 := hD.sub (ws' := [(mo, .inr (12, [.int 0, .ref m1, .ref m2, .ref m3, .ref m4, .ref m5, .int 0, .int 0, .int 0, .int 0, .int 0, .long 0, .int 0, .int 0, .int 0, .int (-1), .ref m16, .ref m17, .ref m18, .ref m19, .ref m20, .ref m21, .ref m22, .ref m23, .int 0, .ref m25, .ref m26, .ref m27, .ref m28, .ref m29, .int 0, .ref m31, .ref m32, .ref m33, .int 0, .int 0, .int 0, .ref m37, .ref m38, .ref m39, .ref m40, .long 0]))]) [0] (by decide) rfl
      exact W.iret (v := (-1)) hx hb hr (fun tZ ht hW => ⟨⟨(-1), (), rfl, (show (-1) = sp_fault p0 from by unfold sp_fault; first | (rw [if_neg (by omega)]) | (rw [if_pos (by omega)])), by rw [ht]; exact hP9, va_K.moved hW.alike hK, hD9⟩, hS.F ht⟩) hS.2.2 dX12_fault_29
    · skip
      have zh_2 : p0.toInt = 1 := z_eq h_2
      refine lv_aload_n hx hb dX12_fault_21 rfl (lv_at hl 0 rfl) ?_
      refine va_get (D := D) (ci := 12) (v := .int (-1)) (C := RX12) (T := TX12) (N := 42) hx hb hts iT_X12 hown hK hP 0 rfl rfl 15 (by decide) (hts _ tw_6_68) (fun _ h9 => h9) rfl dX12_fault_22 ?_
      refine lv_goto (tgt := 29) hx hb dX12_fault_25 (by decide) ?_
      have hP9 := hP.sub (ws' := [(mo, .inr (12, [.int 0, .ref m1, .ref m2, .ref m3, .ref m4, .ref m5, .int 0, .int 0, .int 0, .int 0, .int 0, .long 0, .int 0, .int 0, .int 0, .int (-1), .ref m16, .ref m17, .ref m18, .ref m19, .ref m20, .ref m21, .ref m22, .ref m23, .int 0, .ref m25, .ref m26, .ref m27, .ref m28, .ref m29, .int 0, .ref m31, .ref m32, .ref m33, .int 0, .int 0, .int 0, .ref m37, .ref m38, .ref m39, .ref m40, .long 0]))]) [0] rfl
      have hD9 := hD.sub (ws' := [(mo, .inr (12, [.int 0, .ref m1, .ref m2, .ref m3, .ref m4, .ref m5, .int 0, .int 0, .int 0, .int 0, .int 0, .long 0, .int 0, .int 0, .int 0, .int (-1), .ref m16, .ref m17, .ref m18, .ref m19, .ref m20, .ref m21, .ref m22, .ref m23, .int 0, .ref m25, .ref m26, .ref m27, .ref m28, .ref m29, .int 0, .ref m31, .ref m32, .ref m33, .int 0, .int 0, .int 0, .ref m37, .ref m38, .ref m39, .ref m40, .long 0]))]) [0] (by decide) rfl
      exact W.iret (v := (-1)) hx hb hr (fun tZ ht hW => ⟨⟨(-1), (), rfl, (show (-1) = sp_fault p0 from by unfold sp_fault; first | (rw [if_neg (by omega)]) | (rw [if_pos (by omega)])), by rw [ht]; exact hP9, va_K.moved hW.alike hK, hD9⟩, hS.F ht⟩) hS.2.2 dX12_fault_29
  · skip
    have zh_1 : p0.toInt = 0 := z_eq h_1
    refine lv_aload_n hx hb dX12_fault_9 rfl (lv_at hl 0 rfl) ?_
    refine va_get (D := D) (ci := 12) (v := .int 0) (C := RX12) (T := TX12) (N := 42) hx hb hts iT_X12 hown hK hP 0 rfl rfl 14 (by decide) (hts _ tw_6_67) (fun _ h9 => h9) rfl dX12_fault_10 ?_
    refine lv_goto (tgt := 29) hx hb dX12_fault_13 (by decide) ?_
    have hP9 := hP.sub (ws' := [(mo, .inr (12, [.int 0, .ref m1, .ref m2, .ref m3, .ref m4, .ref m5, .int 0, .int 0, .int 0, .int 0, .int 0, .long 0, .int 0, .int 0, .int 0, .int (-1), .ref m16, .ref m17, .ref m18, .ref m19, .ref m20, .ref m21, .ref m22, .ref m23, .int 0, .ref m25, .ref m26, .ref m27, .ref m28, .ref m29, .int 0, .ref m31, .ref m32, .ref m33, .int 0, .int 0, .int 0, .ref m37, .ref m38, .ref m39, .ref m40, .long 0]))]) [0] rfl
    have hD9 := hD.sub (ws' := [(mo, .inr (12, [.int 0, .ref m1, .ref m2, .ref m3, .ref m4, .ref m5, .int 0, .int 0, .int 0, .int 0, .int 0, .long 0, .int 0, .int 0, .int 0, .int (-1), .ref m16, .ref m17, .ref m18, .ref m19, .ref m20, .ref m21, .ref m22, .ref m23, .int 0, .ref m25, .ref m26, .ref m27, .ref m28, .ref m29, .int 0, .ref m31, .ref m32, .ref m33, .int 0, .int 0, .int 0, .ref m37, .ref m38, .ref m39, .ref m40, .long 0]))]) [0] (by decide) rfl
    exact W.iret (v := 0) hx hb hr (fun tZ ht hW => ⟨⟨0, (), rfl, (show 0 = sp_fault p0 from by unfold sp_fault; first | (rw [if_neg (by omega)]) | (rw [if_pos (by omega)])), by rw [ht]; exact hP9, va_K.moved hW.alike hK, hD9⟩, hS.F ht⟩) hS.2.2 dX12_fault_29
set_option maxHeartbeats 4000000 in
set_option maxRecDepth 100000 in
theorem c_X12_tells (l : Launch) (D : va_G) (k : Nat → ClassId) (mo : Nat) (m1 : Nat) (m2 : Nat) (m3 : Nat) (m4 : Nat) (m5 : Nat) (m16 : Nat) (m17 : Nat) (m18 : Nat) (m19 : Nat) (m20 : Nat) (m21 : Nat) (m22 : Nat) (m23 : Nat) (m25 : Nat) (m26 : Nat) (m27 : Nat) (m28 : Nat) (m29 : Nat) (m31 : Nat) (m32 : Nat) (m33 : Nat) (m37 : Nat) (m38 : Nat) (m39 : Nat) (m40 : Nat) (fh : Nat → Int32) (p0 : Int32) (sz : Nat) (hp1 : 0 ≤ p0.toInt) (hp2 : p0.toInt ≤ 5) : Met l yX12_tells (ww yX12_tells cX12_tells 3 none) ({ frames := 0, cells := 0, slots := 0, locals := 0 }) (Pre0 D k [(mo, .inr (12, [.int 0, .ref m1, .ref m2, .ref m3, .ref m4, .ref m5, .int 0, .int 0, .int 0, .int 0, .int 0, .long 0, .int 0, .int 0, .int 0, .int (-1), .ref m16, .ref m17, .ref m18, .ref m19, .ref m20, .ref m21, .ref m22, .ref m23, .int 0, .ref m25, .ref m26, .ref m27, .ref m28, .ref m29, .int 0, .ref m31, .ref m32, .ref m33, .int 0, .int 0, .int 0, .ref m37, .ref m38, .ref m39, .ref m40, .long 0])), (m17, .inl (k 0, 30, .inl fh))] sz [.ref mo, .int p0, .int 0]) (va_Qv (fun (f2 : (Nat → Int32)) => (∀ j : Nat, fh j = (0 : Int32)) → ∀ j : Nat, f2 j = (0 : Int32)) (fun (f2 : (Nat → Int32)) tZ => Bw D k (va_A [(mo, .inr (12, [.int 0, .ref m1, .ref m2, .ref m3, .ref m4, .ref m5, .int 0, .int 0, .int 0, .int 0, .int 0, .long 0, .int 0, .int 0, .int 0, .int (-1), .ref m16, .ref m17, .ref m18, .ref m19, .ref m20, .ref m21, .ref m22, .ref m23, .int 0, .ref m25, .ref m26, .ref m27, .ref m28, .ref m29, .int 0, .ref m31, .ref m32, .ref m33, .int 0, .int 0, .int 0, .ref m37, .ref m38, .ref m39, .ref m40, .long 0])), (m17, .inl (k 0, 30, .inl fh))] sz) [(mo, .inr (12, [.int 0, .ref m1, .ref m2, .ref m3, .ref m4, .ref m5, .int 0, .int 0, .int 0, .int 0, .int 0, .long 0, .int 0, .int 0, .int 0, .int (-1), .ref m16, .ref m17, .ref m18, .ref m19, .ref m20, .ref m21, .ref m22, .ref m23, .int 0, .ref m25, .ref m26, .ref m27, .ref m28, .ref m29, .int 0, .ref m31, .ref m32, .ref m33, .int 0, .int 0, .int 0, .ref m37, .ref m38, .ref m39, .ref m40, .long 0])), (m17, .inl (k 0, 30, .inl f2))] tZ) (va_A [(mo, .inr (12, [.int 0, .ref m1, .ref m2, .ref m3, .ref m4, .ref m5, .int 0, .int 0, .int 0, .int 0, .int 0, .long 0, .int 0, .int 0, .int 0, .int (-1), .ref m16, .ref m17, .ref m18, .ref m19, .ref m20, .ref m21, .ref m22, .ref m23, .int 0, .ref m25, .ref m26, .ref m27, .ref m28, .ref m29, .int 0, .ref m31, .ref m32, .ref m33, .int 0, .int 0, .int 0, .ref m37, .ref m38, .ref m39, .ref m40, .long 0])), (m17, .inl (k 0, 30, .inl fh))] sz)) 0 0 (va_A [(mo, .inr (12, [.int 0, .ref m1, .ref m2, .ref m3, .ref m4, .ref m5, .int 0, .int 0, .int 0, .int 0, .int 0, .long 0, .int 0, .int 0, .int 0, .int (-1), .ref m16, .ref m17, .ref m18, .ref m19, .ref m20, .ref m21, .ref m22, .ref m23, .int 0, .ref m25, .ref m26, .ref m27, .ref m28, .ref m29, .int 0, .ref m31, .ref m32, .ref m33, .int 0, .int 0, .int 0, .ref m37, .ref m38, .ref m39, .ref m40, .long 0])), (m17, .inl (k 0, 30, .inl fh))] sz) := by
  refine Met.ofW (cc := cX12_tells) (maxL := 3) (ret := none) (by decide +kernel) rfl ?_
  intro p e s m args below meth c s₁ B hml hv
  obtain ⟨rfl, hsz, hP, hK, hD0, hN⟩ := hv
  have hx := B.exec
  have hb := B.bytes
  have hr := B.returns
  have hts : ∀ w ∈ TT, w.before _ s = true := fun w h => atoms_spec (ws := ww yX12_tells cX12_tells 3 none) B.pre w (List.mem_cons_of_mem _ h)
  have hown : s.vm.findClass RX12 = some m.cls := findClass_of_methodNamed B.named
  have hlocks := B.notSynchronized
  subst hsz
  have hD := hD0.self (sz := s.heap.size)
  generalize hAe : va_A [(mo, .inr (12, [.int 0, .ref m1, .ref m2, .ref m3, .ref m4, .ref m5, .int 0, .int 0, .int 0, .int 0, .int 0, .long 0, .int 0, .int 0, .int 0, .int (-1), .ref m16, .ref m17, .ref m18, .ref m19, .ref m20, .ref m21, .ref m22, .ref m23, .int 0, .ref m25, .ref m26, .ref m27, .ref m28, .ref m29, .int 0, .ref m31, .ref m32, .ref m33, .int 0, .int 0, .int 0, .ref m37, .ref m38, .ref m39, .ref m40, .long 0])), (m17, .inl (k 0, 30, .inl fh))] s.heap.size = A at hD ⊢
  have hA : ∀ q : Nat, s.heap.size ≤ q → A q := fun q h => by rw [← hAe]; exact Or.inr h
  have hS : va_S A s.heap s.heap [] := va_S.rf
  have hl := lv_entry ([.ref mo, .int p0, .int 0]) (n := 3) (Nat.le_of_ble_eq_true rfl)
  rw [lg_entry_eq]
  generalize (lg_sl ([.ref mo, .int p0, .int 0]) ++ List.replicate (3 - (lg_sl ([.ref mo, .int p0, .int 0])).length) Slot.unset).toArray = ls at hl ⊢
  have hl : lv_has ls 3 [(0, .ref mo), (1, .int p0), (2, .int 0)] := hl
  refine lv_aload_n hx hb dX12_tells_0 rfl (lv_at hl 0 rfl) ?_
  refine va_get (D := D) (ci := 12) (v := .ref m17) (C := RX12) (T := TX12) (N := 42) hx hb hts iT_X12 hown hK hP 0 rfl rfl 17 (by decide) (hts _ tw_6_70) (fun _ h9 => h9) rfl dX12_tells_1 ?_
  refine lv_bipush (v := 24) hx hb dX12_tells_4 (by decide) ?_
  refine lv_iload_n hx hb dX12_tells_6 rfl (lv_at hl 1 rfl) ?_
  refine lv_iadd hx hb dX12_tells_7 ?_
  refine lv_topi (fun x_1 ex_1 => ?_)
  have zx_1 : x_1.toInt = 24 + p0.toInt := by rw [ex_1]; exact z_add rfl rfl (by omega) (by omega)
  refine lv_iload_n hx hb dX12_tells_8 rfl (lv_at hl 2 rfl) ?_
  refine va_iast hx hb hK hP hD hS 1 0 rfl rfl (z_in (by omega) (by omega)) dX12_tells_9 (fun H locs hP hD hS => ?_)
  have hP : va_P D vwCl [(mo, .inr (12, [.int 0, .ref m1, .ref m2, .ref m3, .ref m4, .ref m5, .int 0, .int 0, .int 0, .int 0, .int 0, .long 0, .int 0, .int 0, .int 0, .int (-1), .ref m16, .ref m17, .ref m18, .ref m19, .ref m20, .ref m21, .ref m22, .ref m23, .int 0, .ref m25, .ref m26, .ref m27, .ref m28, .ref m29, .int 0, .ref m31, .ref m32, .ref m33, .int 0, .int 0, .int 0, .ref m37, .ref m38, .ref m39, .ref m40, .long 0])), (m17, .inl (k 0, 30, .inl (upd fh x_1.toNatClampNeg 0)))] H := hP
  have hD : va_D A [(mo, .inr (12, [.int 0, .ref m1, .ref m2, .ref m3, .ref m4, .ref m5, .int 0, .int 0, .int 0, .int 0, .int 0, .long 0, .int 0, .int 0, .int 0, .int (-1), .ref m16, .ref m17, .ref m18, .ref m19, .ref m20, .ref m21, .ref m22, .ref m23, .int 0, .ref m25, .ref m26, .ref m27, .ref m28, .ref m29, .int 0, .ref m31, .ref m32, .ref m33, .int 0, .int 0, .int 0, .ref m37, .ref m38, .ref m39, .ref m40, .long 0])), (m17, .inl (k 0, 30, .inl (upd fh x_1.toNatClampNeg 0)))] := hD
  have hP9 := hP.sub (ws' := [(mo, .inr (12, [.int 0, .ref m1, .ref m2, .ref m3, .ref m4, .ref m5, .int 0, .int 0, .int 0, .int 0, .int 0, .long 0, .int 0, .int 0, .int 0, .int (-1), .ref m16, .ref m17, .ref m18, .ref m19, .ref m20, .ref m21, .ref m22, .ref m23, .int 0, .ref m25, .ref m26, .ref m27, .ref m28, .ref m29, .int 0, .ref m31, .ref m32, .ref m33, .int 0, .int 0, .int 0, .ref m37, .ref m38, .ref m39, .ref m40, .long 0])), (m17, .inl (k 0, 30, .inl (upd fh x_1.toNatClampNeg 0)))]) [0, 1] rfl
  have hD9 := hD.sub (ws' := [(mo, .inr (12, [.int 0, .ref m1, .ref m2, .ref m3, .ref m4, .ref m5, .int 0, .int 0, .int 0, .int 0, .int 0, .long 0, .int 0, .int 0, .int 0, .int (-1), .ref m16, .ref m17, .ref m18, .ref m19, .ref m20, .ref m21, .ref m22, .ref m23, .int 0, .ref m25, .ref m26, .ref m27, .ref m28, .ref m29, .int 0, .ref m31, .ref m32, .ref m33, .int 0, .int 0, .int 0, .ref m37, .ref m38, .ref m39, .ref m40, .long 0])), (m17, .inl (k 0, 30, .inl (upd fh x_1.toNatClampNeg 0)))]) [0, 1] (by decide) rfl
  exact W.vret hx hb hr (fun tZ ht hW => ⟨⟨upd fh x_1.toNatClampNeg 0, rfl, upd0, by rw [ht]; exact hP9, va_K.moved hW.alike hK, hD9⟩, hS.F ht⟩) hS.2.2 dX12_tells_10
set_option maxHeartbeats 4000000 in
set_option maxRecDepth 100000 in
theorem c_X12_clears (l : Launch) (D : va_G) (k : Nat → ClassId) (mo : Nat) (m1 : Nat) (m2 : Nat) (m3 : Nat) (m4 : Nat) (m5 : Nat) (m16 : Nat) (m17 : Nat) (m18 : Nat) (m19 : Nat) (m20 : Nat) (m21 : Nat) (m22 : Nat) (m23 : Nat) (m25 : Nat) (m26 : Nat) (m27 : Nat) (m28 : Nat) (m29 : Nat) (m31 : Nat) (m32 : Nat) (m33 : Nat) (m37 : Nat) (m38 : Nat) (m39 : Nat) (m40 : Nat) (fl : Nat → Int32) (fh : Nat → Int32) (sz : Nat) : Met l yX12_clears (ww yX12_clears cX12_clears 2 none) ({ frames := 1, cells := 0, slots := 0, locals := 22 }) (Pre0 D k [(mo, .inr (12, [.int 0, .ref m1, .ref m2, .ref m3, .ref m4, .ref m5, .int 0, .int 0, .int 0, .int 0, .int 0, .long 0, .int 0, .int 0, .int 0, .int (-1), .ref m16, .ref m17, .ref m18, .ref m19, .ref m20, .ref m21, .ref m22, .ref m23, .int 0, .ref m25, .ref m26, .ref m27, .ref m28, .ref m29, .int 0, .ref m31, .ref m32, .ref m33, .int 0, .int 0, .int 0, .ref m37, .ref m38, .ref m39, .ref m40, .long 0])), (m16, .inl (k 0, 5, .inl fl)), (m17, .inl (k 0, 30, .inl fh))] sz [.ref mo]) (va_Qv (fun (u : (Nat → Int32) × (Nat → Int32)) => match u with | (l2, h2) => (∀ j : Nat, fl j = (0 : Int32)) → (∀ j : Nat, fh j = (0 : Int32)) → (∀ j : Nat, l2 j = (0 : Int32)) ∧ ∀ j : Nat, h2 j = (0 : Int32)) (fun (u : (Nat → Int32) × (Nat → Int32)) tZ => match u with | (l2, h2) => Bw D k (va_A [(mo, .inr (12, [.int 0, .ref m1, .ref m2, .ref m3, .ref m4, .ref m5, .int 0, .int 0, .int 0, .int 0, .int 0, .long 0, .int 0, .int 0, .int 0, .int (-1), .ref m16, .ref m17, .ref m18, .ref m19, .ref m20, .ref m21, .ref m22, .ref m23, .int 0, .ref m25, .ref m26, .ref m27, .ref m28, .ref m29, .int 0, .ref m31, .ref m32, .ref m33, .int 0, .int 0, .int 0, .ref m37, .ref m38, .ref m39, .ref m40, .long 0])), (m16, .inl (k 0, 5, .inl fl)), (m17, .inl (k 0, 30, .inl fh))] sz) [(mo, .inr (12, [.int 0, .ref m1, .ref m2, .ref m3, .ref m4, .ref m5, .int 0, .int 0, .int 0, .int 0, .int 0, .long 0, .int 0, .int 0, .int 0, .int (-1), .ref m16, .ref m17, .ref m18, .ref m19, .ref m20, .ref m21, .ref m22, .ref m23, .int 0, .ref m25, .ref m26, .ref m27, .ref m28, .ref m29, .int 0, .ref m31, .ref m32, .ref m33, .int 0, .int 0, .int 0, .ref m37, .ref m38, .ref m39, .ref m40, .long 0])), (m16, .inl (k 0, 5, .inl l2)), (m17, .inl (k 0, 30, .inl h2))] tZ) (va_A [(mo, .inr (12, [.int 0, .ref m1, .ref m2, .ref m3, .ref m4, .ref m5, .int 0, .int 0, .int 0, .int 0, .int 0, .long 0, .int 0, .int 0, .int 0, .int (-1), .ref m16, .ref m17, .ref m18, .ref m19, .ref m20, .ref m21, .ref m22, .ref m23, .int 0, .ref m25, .ref m26, .ref m27, .ref m28, .ref m29, .int 0, .ref m31, .ref m32, .ref m33, .int 0, .int 0, .int 0, .ref m37, .ref m38, .ref m39, .ref m40, .long 0])), (m16, .inl (k 0, 5, .inl fl)), (m17, .inl (k 0, 30, .inl fh))] sz)) 0 0 (va_A [(mo, .inr (12, [.int 0, .ref m1, .ref m2, .ref m3, .ref m4, .ref m5, .int 0, .int 0, .int 0, .int 0, .int 0, .long 0, .int 0, .int 0, .int 0, .int (-1), .ref m16, .ref m17, .ref m18, .ref m19, .ref m20, .ref m21, .ref m22, .ref m23, .int 0, .ref m25, .ref m26, .ref m27, .ref m28, .ref m29, .int 0, .ref m31, .ref m32, .ref m33, .int 0, .int 0, .int 0, .ref m37, .ref m38, .ref m39, .ref m40, .long 0])), (m16, .inl (k 0, 5, .inl fl)), (m17, .inl (k 0, 30, .inl fh))] sz) := by
  refine Met.ofW (cc := cX12_clears) (maxL := 2) (ret := none) (by decide +kernel) rfl ?_
  intro p e s m args below meth c s₁ B hml hv
  obtain ⟨rfl, hsz, hP, hK, hD0, hN⟩ := hv
  have hx := B.exec
  have hb := B.bytes
  have hr := B.returns
  have hts : ∀ w ∈ TT, w.before _ s = true := fun w h => atoms_spec (ws := ww yX12_clears cX12_clears 2 none) B.pre w (List.mem_cons_of_mem _ h)
  have hown : s.vm.findClass RX12 = some m.cls := findClass_of_methodNamed B.named
  have hlocks := B.notSynchronized
  subst hsz
  have hD := hD0.self (sz := s.heap.size)
  generalize hAe : va_A [(mo, .inr (12, [.int 0, .ref m1, .ref m2, .ref m3, .ref m4, .ref m5, .int 0, .int 0, .int 0, .int 0, .int 0, .long 0, .int 0, .int 0, .int 0, .int (-1), .ref m16, .ref m17, .ref m18, .ref m19, .ref m20, .ref m21, .ref m22, .ref m23, .int 0, .ref m25, .ref m26, .ref m27, .ref m28, .ref m29, .int 0, .ref m31, .ref m32, .ref m33, .int 0, .int 0, .int 0, .ref m37, .ref m38, .ref m39, .ref m40, .long 0])), (m16, .inl (k 0, 5, .inl fl)), (m17, .inl (k 0, 30, .inl fh))] s.heap.size = A at hD ⊢
  have hA : ∀ q : Nat, s.heap.size ≤ q → A q := fun q h => by rw [← hAe]; exact Or.inr h
  have hS : va_S A s.heap s.heap [] := va_S.rf
  have hl := lv_entry ([.ref mo]) (n := 2) (Nat.le_of_ble_eq_true rfl)
  rw [lg_entry_eq]
  generalize (lg_sl ([.ref mo]) ++ List.replicate (2 - (lg_sl ([.ref mo])).length) Slot.unset).toArray = ls at hl ⊢
  have hl : lv_has ls 2 [(0, .ref mo)] := hl
  refine lv_aload_n hx hb dX12_clears_0 rfl (lv_at hl 0 rfl) ?_
  refine va_get (D := D) (ci := 12) (v := .ref m16) (C := RX12) (T := TX12) (N := 42) hx hb hts iT_X12 hown hK hP 0 rfl rfl 16 (by decide) (hts _ tw_6_69) (fun _ h9 => h9) rfl dX12_clears_1 ?_
  refine lv_iconst (v := 4) hx hb dX12_clears_4 (by decide) ?_
  refine lv_iconst (v := 0) hx hb dX12_clears_5 (by decide) ?_
  refine va_iast hx hb hK hP hD hS 1 0 rfl rfl (z_in (by decide) (by decide)) dX12_clears_6 (fun H locs hP hD hS => ?_)
  have hP : va_P D vwCl [(mo, .inr (12, [.int 0, .ref m1, .ref m2, .ref m3, .ref m4, .ref m5, .int 0, .int 0, .int 0, .int 0, .int 0, .long 0, .int 0, .int 0, .int 0, .int (-1), .ref m16, .ref m17, .ref m18, .ref m19, .ref m20, .ref m21, .ref m22, .ref m23, .int 0, .ref m25, .ref m26, .ref m27, .ref m28, .ref m29, .int 0, .ref m31, .ref m32, .ref m33, .int 0, .int 0, .int 0, .ref m37, .ref m38, .ref m39, .ref m40, .long 0])), (m16, .inl (k 0, 5, .inl (upd fl 4 0))), (m17, .inl (k 0, 30, .inl fh))] H := hP
  have hD : va_D A [(mo, .inr (12, [.int 0, .ref m1, .ref m2, .ref m3, .ref m4, .ref m5, .int 0, .int 0, .int 0, .int 0, .int 0, .long 0, .int 0, .int 0, .int 0, .int (-1), .ref m16, .ref m17, .ref m18, .ref m19, .ref m20, .ref m21, .ref m22, .ref m23, .int 0, .ref m25, .ref m26, .ref m27, .ref m28, .ref m29, .int 0, .ref m31, .ref m32, .ref m33, .int 0, .int 0, .int 0, .ref m37, .ref m38, .ref m39, .ref m40, .long 0])), (m16, .inl (k 0, 5, .inl (upd fl 4 0))), (m17, .inl (k 0, 30, .inl fh))] := hD
  refine lv_iconst (v := 0) hx hb dX12_clears_7 (by decide) ?_
  refine lv_istore_n (lv' := [(1, .int 0), (0, .ref mo)]) hx hb dX12_clears_8 rfl hl (by decide) rfl (fun ls hl => ?_)
  refine lv_iload_n hx hb dX12_clears_9 rfl (lv_at hl 0 rfl) ?_
  refine lv_bipush (v := 6) hx hb dX12_clears_10 (by decide) ?_
  refine lv_icmp_ge (tgt := 27) hx hb dX12_clears_12 (by decide) (fun c9 => absurd c9 (by decide)) (fun _ => ?_)
  refine lv_aload_n hx hb dX12_clears_15 rfl (lv_at hl 1 rfl) ?_
  refine lv_iload_n hx hb dX12_clears_16 rfl (lv_at hl 0 rfl) ?_
  refine lv_iconst (v := 0) hx hb dX12_clears_17 (by decide) ?_
  have hPc := hP.sub (ws' := [(mo, .inr (12, [.int 0, .ref m1, .ref m2, .ref m3, .ref m4, .ref m5, .int 0, .int 0, .int 0, .int 0, .int 0, .long 0, .int 0, .int 0, .int 0, .int (-1), .ref m16, .ref m17, .ref m18, .ref m19, .ref m20, .ref m21, .ref m22, .ref m23, .int 0, .ref m25, .ref m26, .ref m27, .ref m28, .ref m29, .int 0, .ref m31, .ref m32, .ref m33, .int 0, .int 0, .int 0, .ref m37, .ref m38, .ref m39, .ref m40, .long 0])), (m17, .inl (k 0, 30, .inl fh))]) [0, 2] rfl
  have hDc := hD.sub (ws' := [(mo, .inr (12, [.int 0, .ref m1, .ref m2, .ref m3, .ref m4, .ref m5, .int 0, .int 0, .int 0, .int 0, .int 0, .long 0, .int 0, .int 0, .int 0, .int (-1), .ref m16, .ref m17, .ref m18, .ref m19, .ref m20, .ref m21, .ref m22, .ref m23, .int 0, .ref m25, .ref m26, .ref m27, .ref m28, .ref m29, .int 0, .ref m31, .ref m32, .ref m33, .int 0, .int 0, .int 0, .ref m37, .ref m38, .ref m39, .ref m40, .long 0])), (m17, .inl (k 0, 30, .inl fh))]) [0, 2] (by decide) rfl
  have hFc := va_free (wc := [(mo, .inr (12, [.int 0, .ref m1, .ref m2, .ref m3, .ref m4, .ref m5, .int 0, .int 0, .int 0, .int 0, .int 0, .long 0, .int 0, .int 0, .int 0, .int (-1), .ref m16, .ref m17, .ref m18, .ref m19, .ref m20, .ref m21, .ref m22, .ref m23, .int 0, .ref m25, .ref m26, .ref m27, .ref m28, .ref m29, .int 0, .ref m31, .ref m32, .ref m33, .int 0, .int 0, .int 0, .ref m37, .ref m38, .ref m39, .ref m40, .long 0])), (m17, .inl (k 0, 30, .inl fh))]) hD hS hA [0, 2] rfl
  refine va_callv (va_runV (C := RX12) (As := [.int 0, .int 0]) (rest := []) ⟨hx, hb, hml, hown, hts⟩ (c_X12_tells l D k mo m1 m2 m3 m4 m5 m16 m17 m18 m19 m20 m21 m22 m23 m25 m26 m27 m28 m29 m31 m32 m33 m37 m38 m39 m40 fh 0 H.size (show 0 ≤ 0 from by omega) (show 0 ≤ 5 from by omega)) (cwV 2 hts (gV tw_6_226 tw_6_228 tw_p_37 tw_1_13 tw_6_229) rfl rfl rfl hdV_X12_tells ⟨Nat.le_of_ble_eq_true rfl, Nat.le_of_ble_eq_true rfl⟩) (cz_V hK hPc hDc hN (ci := 12) (q0 := 0) rfl rfl [.int 0, .int 0]) rfl rfl hl.1 rfl (lv_room (Nat.le_of_ble_eq_true rfl)) dX12_clears_18 ⟨Nat.le_of_ble_eq_true rfl, Nat.le_of_ble_eq_true rfl⟩) hS (fun q _ h => hFc q h) hFc (fun uZ tZ H1 locs ht hvm hw hB hz1 hk1 hS => ?_)
  obtain ⟨o_2, rfl⟩ : ∃ z, z = uZ := ⟨_, rfl⟩
  obtain ⟨hP1, hK1, hD1⟩ := hB
  rw [ht] at hP1
  obtain ⟨hP, hD⟩ := va_join (wr := [(m16, .inl (k 0, 5, .inl (upd fl 4 0)))]) (w1 := [(mo, .inr (12, [.int 0, .ref m1, .ref m2, .ref m3, .ref m4, .ref m5, .int 0, .int 0, .int 0, .int 0, .int 0, .long 0, .int 0, .int 0, .int 0, .int (-1), .ref m16, .ref m17, .ref m18, .ref m19, .ref m20, .ref m21, .ref m22, .ref m23, .int 0, .ref m25, .ref m26, .ref m27, .ref m28, .ref m29, .int 0, .ref m31, .ref m32, .ref m33, .int 0, .int 0, .int 0, .ref m37, .ref m38, .ref m39, .ref m40, .long 0])), (m17, .inl (k 0, 30, .inl o_2))]) hP hD [0, 2] [1] rfl rfl (by decide) (by decide) hk1 hFc hP1 hD1
  clear hK1 hP1 hD1 hPc hDc hFc
  clear hk1 hz1 ht hvm
  have hP : va_P D vwCl [(m16, .inl (k 0, 5, .inl (upd fl 4 0))), (mo, .inr (12, [.int 0, .ref m1, .ref m2, .ref m3, .ref m4, .ref m5, .int 0, .int 0, .int 0, .int 0, .int 0, .long 0, .int 0, .int 0, .int 0, .int (-1), .ref m16, .ref m17, .ref m18, .ref m19, .ref m20, .ref m21, .ref m22, .ref m23, .int 0, .ref m25, .ref m26, .ref m27, .ref m28, .ref m29, .int 0, .ref m31, .ref m32, .ref m33, .int 0, .int 0, .int 0, .ref m37, .ref m38, .ref m39, .ref m40, .long 0])), (m17, .inl (k 0, 30, .inl o_2))] H1 := hP
  have hD : va_D A [(m16, .inl (k 0, 5, .inl (upd fl 4 0))), (mo, .inr (12, [.int 0, .ref m1, .ref m2, .ref m3, .ref m4, .ref m5, .int 0, .int 0, .int 0, .int 0, .int 0, .long 0, .int 0, .int 0, .int 0, .int (-1), .ref m16, .ref m17, .ref m18, .ref m19, .ref m20, .ref m21, .ref m22, .ref m23, .int 0, .ref m25, .ref m26, .ref m27, .ref m28, .ref m29, .int 0, .ref m31, .ref m32, .ref m33, .int 0, .int 0, .int 0, .ref m37, .ref m38, .ref m39, .ref m40, .long 0])), (m17, .inl (k 0, 30, .inl o_2))] := hD
  generalize H1 = H at hP hS ⊢
  have hw_3 : (∀ j : Nat, fh j = (0 : Int32)) → ∀ j : Nat, o_2 j = (0 : Int32) := hw
  clear hw
  refine lv_iinc (v := 1) (lv' := [(1, .int 1), (0, .ref mo)]) hx hb dX12_clears_21 hl (k := 0) rfl (by decide) (by decide) rfl (fun ls hl => ?_)
  refine lv_goto (tgt := 9) hx hb dX12_clears_24 (by decide) ?_
  refine lv_iload_n hx hb dX12_clears_9 rfl (lv_at hl 0 rfl) ?_
  refine lv_bipush (v := 6) hx hb dX12_clears_10 (by decide) ?_
  refine lv_icmp_ge (tgt := 27) hx hb dX12_clears_12 (by decide) (fun c9 => absurd c9 (by decide)) (fun _ => ?_)
  refine lv_aload_n hx hb dX12_clears_15 rfl (lv_at hl 1 rfl) ?_
  refine lv_iload_n hx hb dX12_clears_16 rfl (lv_at hl 0 rfl) ?_
  refine lv_iconst (v := 0) hx hb dX12_clears_17 (by decide) ?_
  have hPc := hP.sub (ws' := [(mo, .inr (12, [.int 0, .ref m1, .ref m2, .ref m3, .ref m4, .ref m5, .int 0, .int 0, .int 0, .int 0, .int 0, .long 0, .int 0, .int 0, .int 0, .int (-1), .ref m16, .ref m17, .ref m18, .ref m19, .ref m20, .ref m21, .ref m22, .ref m23, .int 0, .ref m25, .ref m26, .ref m27, .ref m28, .ref m29, .int 0, .ref m31, .ref m32, .ref m33, .int 0, .int 0, .int 0, .ref m37, .ref m38, .ref m39, .ref m40, .long 0])), (m17, .inl (k 0, 30, .inl o_2))]) [1, 2] rfl
  have hDc := hD.sub (ws' := [(mo, .inr (12, [.int 0, .ref m1, .ref m2, .ref m3, .ref m4, .ref m5, .int 0, .int 0, .int 0, .int 0, .int 0, .long 0, .int 0, .int 0, .int 0, .int (-1), .ref m16, .ref m17, .ref m18, .ref m19, .ref m20, .ref m21, .ref m22, .ref m23, .int 0, .ref m25, .ref m26, .ref m27, .ref m28, .ref m29, .int 0, .ref m31, .ref m32, .ref m33, .int 0, .int 0, .int 0, .ref m37, .ref m38, .ref m39, .ref m40, .long 0])), (m17, .inl (k 0, 30, .inl o_2))]) [1, 2] (by decide) rfl
  have hFc := va_free (wc := [(mo, .inr (12, [.int 0, .ref m1, .ref m2, .ref m3, .ref m4, .ref m5, .int 0, .int 0, .int 0, .int 0, .int 0, .long 0, .int 0, .int 0, .int 0, .int (-1), .ref m16, .ref m17, .ref m18, .ref m19, .ref m20, .ref m21, .ref m22, .ref m23, .int 0, .ref m25, .ref m26, .ref m27, .ref m28, .ref m29, .int 0, .ref m31, .ref m32, .ref m33, .int 0, .int 0, .int 0, .ref m37, .ref m38, .ref m39, .ref m40, .long 0])), (m17, .inl (k 0, 30, .inl o_2))]) hD hS hA [1, 2] rfl
  refine va_callv (va_runV (C := RX12) (As := [.int 1, .int 0]) (rest := []) ⟨hx, hb, hml, hown, hts⟩ (c_X12_tells l D k mo m1 m2 m3 m4 m5 m16 m17 m18 m19 m20 m21 m22 m23 m25 m26 m27 m28 m29 m31 m32 m33 m37 m38 m39 m40 o_2 1 H.size (show 0 ≤ 1 from by omega) (show 1 ≤ 5 from by omega)) (cwV 2 hts (gV tw_6_226 tw_6_228 tw_p_37 tw_1_13 tw_6_229) rfl rfl rfl hdV_X12_tells ⟨Nat.le_of_ble_eq_true rfl, Nat.le_of_ble_eq_true rfl⟩) (cz_V hK hPc hDc hN (ci := 12) (q0 := 0) rfl rfl [.int 1, .int 0]) rfl rfl hl.1 rfl (lv_room (Nat.le_of_ble_eq_true rfl)) dX12_clears_18 ⟨Nat.le_of_ble_eq_true rfl, Nat.le_of_ble_eq_true rfl⟩) hS (fun q _ h => hFc q h) hFc (fun uZ tZ H1 locs ht hvm hw hB hz1 hk1 hS => ?_)
  obtain ⟨o_6, rfl⟩ : ∃ z, z = uZ := ⟨_, rfl⟩
  obtain ⟨hP1, hK1, hD1⟩ := hB
  rw [ht] at hP1
  obtain ⟨hP, hD⟩ := va_join (wr := [(m16, .inl (k 0, 5, .inl (upd fl 4 0)))]) (w1 := [(mo, .inr (12, [.int 0, .ref m1, .ref m2, .ref m3, .ref m4, .ref m5, .int 0, .int 0, .int 0, .int 0, .int 0, .long 0, .int 0, .int 0, .int 0, .int (-1), .ref m16, .ref m17, .ref m18, .ref m19, .ref m20, .ref m21, .ref m22, .ref m23, .int 0, .ref m25, .ref m26, .ref m27, .ref m28, .ref m29, .int 0, .ref m31, .ref m32, .ref m33, .int 0, .int 0, .int 0, .ref m37, .ref m38, .ref m39, .ref m40, .long 0])), (m17, .inl (k 0, 30, .inl o_6))]) hP hD [1, 2] [0] rfl rfl (by decide) (by decide) hk1 hFc hP1 hD1
  clear hK1 hP1 hD1 hPc hDc hFc
  clear hk1 hz1 ht hvm
  have hP : va_P D vwCl [(m16, .inl (k 0, 5, .inl (upd fl 4 0))), (mo, .inr (12, [.int 0, .ref m1, .ref m2, .ref m3, .ref m4, .ref m5, .int 0, .int 0, .int 0, .int 0, .int 0, .long 0, .int 0, .int 0, .int 0, .int (-1), .ref m16, .ref m17, .ref m18, .ref m19, .ref m20, .ref m21, .ref m22, .ref m23, .int 0, .ref m25, .ref m26, .ref m27, .ref m28, .ref m29, .int 0, .ref m31, .ref m32, .ref m33, .int 0, .int 0, .int 0, .ref m37, .ref m38, .ref m39, .ref m40, .long 0])), (m17, .inl (k 0, 30, .inl o_6))] H1 := hP
  have hD : va_D A [(m16, .inl (k 0, 5, .inl (upd fl 4 0))), (mo, .inr (12, [.int 0, .ref m1, .ref m2, .ref m3, .ref m4, .ref m5, .int 0, .int 0, .int 0, .int 0, .int 0, .long 0, .int 0, .int 0, .int 0, .int (-1), .ref m16, .ref m17, .ref m18, .ref m19, .ref m20, .ref m21, .ref m22, .ref m23, .int 0, .ref m25, .ref m26, .ref m27, .ref m28, .ref m29, .int 0, .ref m31, .ref m32, .ref m33, .int 0, .int 0, .int 0, .ref m37, .ref m38, .ref m39, .ref m40, .long 0])), (m17, .inl (k 0, 30, .inl o_6))] := hD
  generalize H1 = H at hP hS ⊢
  have hw_7 : (∀ j : Nat, o_2 j = (0 : Int32)) → ∀ j : Nat, o_6 j = (0 : Int32) := hw
  clear hw
  refine lv_iinc (v := 2) (lv' := [(1, .int 2), (0, .ref mo)]) hx hb dX12_clears_21 hl (k := 0) rfl (by decide) (by decide) rfl (fun ls hl => ?_)
  refine lv_goto (tgt := 9) hx hb dX12_clears_24 (by decide) ?_
  refine lv_iload_n hx hb dX12_clears_9 rfl (lv_at hl 0 rfl) ?_
  refine lv_bipush (v := 6) hx hb dX12_clears_10 (by decide) ?_
  refine lv_icmp_ge (tgt := 27) hx hb dX12_clears_12 (by decide) (fun c9 => absurd c9 (by decide)) (fun _ => ?_)
  refine lv_aload_n hx hb dX12_clears_15 rfl (lv_at hl 1 rfl) ?_
  refine lv_iload_n hx hb dX12_clears_16 rfl (lv_at hl 0 rfl) ?_
  refine lv_iconst (v := 0) hx hb dX12_clears_17 (by decide) ?_
  have hPc := hP.sub (ws' := [(mo, .inr (12, [.int 0, .ref m1, .ref m2, .ref m3, .ref m4, .ref m5, .int 0, .int 0, .int 0, .int 0, .int 0, .long 0, .int 0, .int 0, .int 0, .int (-1), .ref m16, .ref m17, .ref m18, .ref m19, .ref m20, .ref m21, .ref m22, .ref m23, .int 0, .ref m25, .ref m26, .ref m27, .ref m28, .ref m29, .int 0, .ref m31, .ref m32, .ref m33, .int 0, .int 0, .int 0, .ref m37, .ref m38, .ref m39, .ref m40, .long 0])), (m17, .inl (k 0, 30, .inl o_6))]) [1, 2] rfl
  have hDc := hD.sub (ws' := [(mo, .inr (12, [.int 0, .ref m1, .ref m2, .ref m3, .ref m4, .ref m5, .int 0, .int 0, .int 0, .int 0, .int 0, .long 0, .int 0, .int 0, .int 0, .int (-1), .ref m16, .ref m17, .ref m18, .ref m19, .ref m20, .ref m21, .ref m22, .ref m23, .int 0, .ref m25, .ref m26, .ref m27, .ref m28, .ref m29, .int 0, .ref m31, .ref m32, .ref m33, .int 0, .int 0, .int 0, .ref m37, .ref m38, .ref m39, .ref m40, .long 0])), (m17, .inl (k 0, 30, .inl o_6))]) [1, 2] (by decide) rfl
  have hFc := va_free (wc := [(mo, .inr (12, [.int 0, .ref m1, .ref m2, .ref m3, .ref m4, .ref m5, .int 0, .int 0, .int 0, .int 0, .int 0, .long 0, .int 0, .int 0, .int 0, .int (-1), .ref m16, .ref m17, .ref m18, .ref m19, .ref m20, .ref m21, .ref m22, .ref m23, .int 0, .ref m25, .ref m26, .ref m27, .ref m28, .ref m29, .int 0, .ref m31, .ref m32, .ref m33, .int 0, .int 0, .int 0, .ref m37, .ref m38, .ref m39, .ref m40, .long 0])), (m17, .inl (k 0, 30, .inl o_6))]) hD hS hA [1, 2] rfl
  refine va_callv (va_runV (C := RX12) (As := [.int 2, .int 0]) (rest := []) ⟨hx, hb, hml, hown, hts⟩ (c_X12_tells l D k mo m1 m2 m3 m4 m5 m16 m17 m18 m19 m20 m21 m22 m23 m25 m26 m27 m28 m29 m31 m32 m33 m37 m38 m39 m40 o_6 2 H.size (show 0 ≤ 2 from by omega) (show 2 ≤ 5 from by omega)) (cwV 2 hts (gV tw_6_226 tw_6_228 tw_p_37 tw_1_13 tw_6_229) rfl rfl rfl hdV_X12_tells ⟨Nat.le_of_ble_eq_true rfl, Nat.le_of_ble_eq_true rfl⟩) (cz_V hK hPc hDc hN (ci := 12) (q0 := 0) rfl rfl [.int 2, .int 0]) rfl rfl hl.1 rfl (lv_room (Nat.le_of_ble_eq_true rfl)) dX12_clears_18 ⟨Nat.le_of_ble_eq_true rfl, Nat.le_of_ble_eq_true rfl⟩) hS (fun q _ h => hFc q h) hFc (fun uZ tZ H1 locs ht hvm hw hB hz1 hk1 hS => ?_)
  obtain ⟨o_10, rfl⟩ : ∃ z, z = uZ := ⟨_, rfl⟩
  obtain ⟨hP1, hK1, hD1⟩ := hB
  rw [ht] at hP1
  obtain ⟨hP, hD⟩ := va_join (wr := [(m16, .inl (k 0, 5, .inl (upd fl 4 0)))]) (w1 := [(mo, .inr (12, [.int 0, .ref m1, .ref m2, .ref m3, .ref m4, .ref m5, .int 0, .int 0, .int 0, .int 0, .int 0, .long 0, .int 0, .int 0, .int 0, .int (-1), .ref m16, .ref m17, .ref m18, .ref m19, .ref m20, .ref m21, .ref m22, .ref m23, .int 0, .ref m25, .ref m26, .ref m27, .ref m28, .ref m29, .int 0, .ref m31, .ref m32, .ref m33, .int 0, .int 0, .int 0, .ref m37, .ref m38, .ref m39, .ref m40, .long 0])), (m17, .inl (k 0, 30, .inl o_10))]) hP hD [1, 2] [0] rfl rfl (by decide) (by decide) hk1 hFc hP1 hD1
  clear hK1 hP1 hD1 hPc hDc hFc
  clear hk1 hz1 ht hvm
  have hP : va_P D vwCl [(m16, .inl (k 0, 5, .inl (upd fl 4 0))), (mo, .inr (12, [.int 0, .ref m1, .ref m2, .ref m3, .ref m4, .ref m5, .int 0, .int 0, .int 0, .int 0, .int 0, .long 0, .int 0, .int 0, .int 0, .int (-1), .ref m16, .ref m17, .ref m18, .ref m19, .ref m20, .ref m21, .ref m22, .ref m23, .int 0, .ref m25, .ref m26, .ref m27, .ref m28, .ref m29, .int 0, .ref m31, .ref m32, .ref m33, .int 0, .int 0, .int 0, .ref m37, .ref m38, .ref m39, .ref m40, .long 0])), (m17, .inl (k 0, 30, .inl o_10))] H1 := hP
  have hD : va_D A [(m16, .inl (k 0, 5, .inl (upd fl 4 0))), (mo, .inr (12, [.int 0, .ref m1, .ref m2, .ref m3, .ref m4, .ref m5, .int 0, .int 0, .int 0, .int 0, .int 0, .long 0, .int 0, .int 0, .int 0, .int (-1), .ref m16, .ref m17, .ref m18, .ref m19, .ref m20, .ref m21, .ref m22, .ref m23, .int 0, .ref m25, .ref m26, .ref m27, .ref m28, .ref m29, .int 0, .ref m31, .ref m32, .ref m33, .int 0, .int 0, .int 0, .ref m37, .ref m38, .ref m39, .ref m40, .long 0])), (m17, .inl (k 0, 30, .inl o_10))] := hD
  generalize H1 = H at hP hS ⊢
  have hw_11 : (∀ j : Nat, o_6 j = (0 : Int32)) → ∀ j : Nat, o_10 j = (0 : Int32) := hw
  clear hw
  refine lv_iinc (v := 3) (lv' := [(1, .int 3), (0, .ref mo)]) hx hb dX12_clears_21 hl (k := 0) rfl (by decide) (by decide) rfl (fun ls hl => ?_)
  refine lv_goto (tgt := 9) hx hb dX12_clears_24 (by decide) ?_
  refine lv_iload_n hx hb dX12_clears_9 rfl (lv_at hl 0 rfl) ?_
  refine lv_bipush (v := 6) hx hb dX12_clears_10 (by decide) ?_
  refine lv_icmp_ge (tgt := 27) hx hb dX12_clears_12 (by decide) (fun c9 => absurd c9 (by decide)) (fun _ => ?_)
  refine lv_aload_n hx hb dX12_clears_15 rfl (lv_at hl 1 rfl) ?_
  refine lv_iload_n hx hb dX12_clears_16 rfl (lv_at hl 0 rfl) ?_
  refine lv_iconst (v := 0) hx hb dX12_clears_17 (by decide) ?_
  have hPc := hP.sub (ws' := [(mo, .inr (12, [.int 0, .ref m1, .ref m2, .ref m3, .ref m4, .ref m5, .int 0, .int 0, .int 0, .int 0, .int 0, .long 0, .int 0, .int 0, .int 0, .int (-1), .ref m16, .ref m17, .ref m18, .ref m19, .ref m20, .ref m21, .ref m22, .ref m23, .int 0, .ref m25, .ref m26, .ref m27, .ref m28, .ref m29, .int 0, .ref m31, .ref m32, .ref m33, .int 0, .int 0, .int 0, .ref m37, .ref m38, .ref m39, .ref m40, .long 0])), (m17, .inl (k 0, 30, .inl o_10))]) [1, 2] rfl
  have hDc := hD.sub (ws' := [(mo, .inr (12, [.int 0, .ref m1, .ref m2, .ref m3, .ref m4, .ref m5, .int 0, .int 0, .int 0, .int 0, .int 0, .long 0, .int 0, .int 0, .int 0, .int (-1), .ref m16, .ref m17, .ref m18, .ref m19, .ref m20, .ref m21, .ref m22, .ref m23, .int 0, .ref m25, .ref m26, .ref m27, .ref m28, .ref m29, .int 0, .ref m31, .ref m32, .ref m33, .int 0, .int 0, .int 0, .ref m37, .ref m38, .ref m39, .ref m40, .long 0])), (m17, .inl (k 0, 30, .inl o_10))]) [1, 2] (by decide) rfl
  have hFc := va_free (wc := [(mo, .inr (12, [.int 0, .ref m1, .ref m2, .ref m3, .ref m4, .ref m5, .int 0, .int 0, .int 0, .int 0, .int 0, .long 0, .int 0, .int 0, .int 0, .int (-1), .ref m16, .ref m17, .ref m18, .ref m19, .ref m20, .ref m21, .ref m22, .ref m23, .int 0, .ref m25, .ref m26, .ref m27, .ref m28, .ref m29, .int 0, .ref m31, .ref m32, .ref m33, .int 0, .int 0, .int 0, .ref m37, .ref m38, .ref m39, .ref m40, .long 0])), (m17, .inl (k 0, 30, .inl o_10))]) hD hS hA [1, 2] rfl
  refine va_callv (va_runV (C := RX12) (As := [.int 3, .int 0]) (rest := []) ⟨hx, hb, hml, hown, hts⟩ (c_X12_tells l D k mo m1 m2 m3 m4 m5 m16 m17 m18 m19 m20 m21 m22 m23 m25 m26 m27 m28 m29 m31 m32 m33 m37 m38 m39 m40 o_10 3 H.size (show 0 ≤ 3 from by omega) (show 3 ≤ 5 from by omega)) (cwV 2 hts (gV tw_6_226 tw_6_228 tw_p_37 tw_1_13 tw_6_229) rfl rfl rfl hdV_X12_tells ⟨Nat.le_of_ble_eq_true rfl, Nat.le_of_ble_eq_true rfl⟩) (cz_V hK hPc hDc hN (ci := 12) (q0 := 0) rfl rfl [.int 3, .int 0]) rfl rfl hl.1 rfl (lv_room (Nat.le_of_ble_eq_true rfl)) dX12_clears_18 ⟨Nat.le_of_ble_eq_true rfl, Nat.le_of_ble_eq_true rfl⟩) hS (fun q _ h => hFc q h) hFc (fun uZ tZ H1 locs ht hvm hw hB hz1 hk1 hS => ?_)
  obtain ⟨o_14, rfl⟩ : ∃ z, z = uZ := ⟨_, rfl⟩
  obtain ⟨hP1, hK1, hD1⟩ := hB
  rw [ht] at hP1
  obtain ⟨hP, hD⟩ := va_join (wr := [(m16, .inl (k 0, 5, .inl (upd fl 4 0)))]) (w1 := [(mo, .inr (12, [.int 0, .ref m1, .ref m2, .ref m3, .ref m4, .ref m5, .int 0, .int 0, .int 0, .int 0, .int 0, .long 0, .int 0, .int 0, .int 0, .int (-1), .ref m16, .ref m17, .ref m18, .ref m19, .ref m20, .ref m21, .ref m22, .ref m23, .int 0, .ref m25, .ref m26, .ref m27, .ref m28, .ref m29, .int 0, .ref m31, .ref m32, .ref m33, .int 0, .int 0, .int 0, .ref m37, .ref m38, .ref m39, .ref m40, .long 0])), (m17, .inl (k 0, 30, .inl o_14))]) hP hD [1, 2] [0] rfl rfl (by decide) (by decide) hk1 hFc hP1 hD1
  clear hK1 hP1 hD1 hPc hDc hFc
  clear hk1 hz1 ht hvm
  have hP : va_P D vwCl [(m16, .inl (k 0, 5, .inl (upd fl 4 0))), (mo, .inr (12, [.int 0, .ref m1, .ref m2, .ref m3, .ref m4, .ref m5, .int 0, .int 0, .int 0, .int 0, .int 0, .long 0, .int 0, .int 0, .int 0, .int (-1), .ref m16, .ref m17, .ref m18, .ref m19, .ref m20, .ref m21, .ref m22, .ref m23, .int 0, .ref m25, .ref m26, .ref m27, .ref m28, .ref m29, .int 0, .ref m31, .ref m32, .ref m33, .int 0, .int 0, .int 0, .ref m37, .ref m38, .ref m39, .ref m40, .long 0])), (m17, .inl (k 0, 30, .inl o_14))] H1 := hP
  have hD : va_D A [(m16, .inl (k 0, 5, .inl (upd fl 4 0))), (mo, .inr (12, [.int 0, .ref m1, .ref m2, .ref m3, .ref m4, .ref m5, .int 0, .int 0, .int 0, .int 0, .int 0, .long 0, .int 0, .int 0, .int 0, .int (-1), .ref m16, .ref m17, .ref m18, .ref m19, .ref m20, .ref m21, .ref m22, .ref m23, .int 0, .ref m25, .ref m26, .ref m27, .ref m28, .ref m29, .int 0, .ref m31, .ref m32, .ref m33, .int 0, .int 0, .int 0, .ref m37, .ref m38, .ref m39, .ref m40, .long 0])), (m17, .inl (k 0, 30, .inl o_14))] := hD
  generalize H1 = H at hP hS ⊢
  have hw_15 : (∀ j : Nat, o_10 j = (0 : Int32)) → ∀ j : Nat, o_14 j = (0 : Int32) := hw
  clear hw
  refine lv_iinc (v := 4) (lv' := [(1, .int 4), (0, .ref mo)]) hx hb dX12_clears_21 hl (k := 0) rfl (by decide) (by decide) rfl (fun ls hl => ?_)
  refine lv_goto (tgt := 9) hx hb dX12_clears_24 (by decide) ?_
  refine lv_iload_n hx hb dX12_clears_9 rfl (lv_at hl 0 rfl) ?_
  refine lv_bipush (v := 6) hx hb dX12_clears_10 (by decide) ?_
  refine lv_icmp_ge (tgt := 27) hx hb dX12_clears_12 (by decide) (fun c9 => absurd c9 (by decide)) (fun _ => ?_)
  refine lv_aload_n hx hb dX12_clears_15 rfl (lv_at hl 1 rfl) ?_
  refine lv_iload_n hx hb dX12_clears_16 rfl (lv_at hl 0 rfl) ?_
  refine lv_iconst (v := 0) hx hb dX12_clears_17 (by decide) ?_
  have hPc := hP.sub (ws' := [(mo, .inr (12, [.int 0, .ref m1, .ref m2, .ref m3, .ref m4, .ref m5, .int 0, .int 0, .int 0, .int 0, .int 0, .long 0, .int 0, .int 0, .int 0, .int (-1), .ref m16, .ref m17, .ref m18, .ref m19, .ref m20, .ref m21, .ref m22, .ref m23, .int 0, .ref m25, .ref m26, .ref m27, .ref m28, .ref m29, .int 0, .ref m31, .ref m32, .ref m33, .int 0, .int 0, .int 0, .ref m37, .ref m38, .ref m39, .ref m40, .long 0])), (m17, .inl (k 0, 30, .inl o_14))]) [1, 2] rfl
  have hDc := hD.sub (ws' := [(mo, .inr (12, [.int 0, .ref m1, .ref m2, .ref m3, .ref m4, .ref m5, .int 0, .int 0, .int 0, .int 0, .int 0, .long 0, .int 0, .int 0, .int 0, .int (-1), .ref m16, .ref m17, .ref m18, .ref m19, .ref m20, .ref m21, .ref m22, .ref m23, .int 0, .ref m25, .ref m26, .ref m27, .ref m28, .ref m29, .int 0, .ref m31, .ref m32, .ref m33, .int 0, .int 0, .int 0, .ref m37, .ref m38, .ref m39, .ref m40, .long 0])), (m17, .inl (k 0, 30, .inl o_14))]) [1, 2] (by decide) rfl
  have hFc := va_free (wc := [(mo, .inr (12, [.int 0, .ref m1, .ref m2, .ref m3, .ref m4, .ref m5, .int 0, .int 0, .int 0, .int 0, .int 0, .long 0, .int 0, .int 0, .int 0, .int (-1), .ref m16, .ref m17, .ref m18, .ref m19, .ref m20, .ref m21, .ref m22, .ref m23, .int 0, .ref m25, .ref m26, .ref m27, .ref m28, .ref m29, .int 0, .ref m31, .ref m32, .ref m33, .int 0, .int 0, .int 0, .ref m37, .ref m38, .ref m39, .ref m40, .long 0])), (m17, .inl (k 0, 30, .inl o_14))]) hD hS hA [1, 2] rfl
  refine va_callv (va_runV (C := RX12) (As := [.int 4, .int 0]) (rest := []) ⟨hx, hb, hml, hown, hts⟩ (c_X12_tells l D k mo m1 m2 m3 m4 m5 m16 m17 m18 m19 m20 m21 m22 m23 m25 m26 m27 m28 m29 m31 m32 m33 m37 m38 m39 m40 o_14 4 H.size (show 0 ≤ 4 from by omega) (show 4 ≤ 5 from by omega)) (cwV 2 hts (gV tw_6_226 tw_6_228 tw_p_37 tw_1_13 tw_6_229) rfl rfl rfl hdV_X12_tells ⟨Nat.le_of_ble_eq_true rfl, Nat.le_of_ble_eq_true rfl⟩) (cz_V hK hPc hDc hN (ci := 12) (q0 := 0) rfl rfl [.int 4, .int 0]) rfl rfl hl.1 rfl (lv_room (Nat.le_of_ble_eq_true rfl)) dX12_clears_18 ⟨Nat.le_of_ble_eq_true rfl, Nat.le_of_ble_eq_true rfl⟩) hS (fun q _ h => hFc q h) hFc (fun uZ tZ H1 locs ht hvm hw hB hz1 hk1 hS => ?_)
  obtain ⟨o_18, rfl⟩ : ∃ z, z = uZ := ⟨_, rfl⟩
  obtain ⟨hP1, hK1, hD1⟩ := hB
  rw [ht] at hP1
  obtain ⟨hP, hD⟩ := va_join (wr := [(m16, .inl (k 0, 5, .inl (upd fl 4 0)))]) (w1 := [(mo, .inr (12, [.int 0, .ref m1, .ref m2, .ref m3, .ref m4, .ref m5, .int 0, .int 0, .int 0, .int 0, .int 0, .long 0, .int 0, .int 0, .int 0, .int (-1), .ref m16, .ref m17, .ref m18, .ref m19, .ref m20, .ref m21, .ref m22, .ref m23, .int 0, .ref m25, .ref m26, .ref m27, .ref m28, .ref m29, .int 0, .ref m31, .ref m32, .ref m33, .int 0, .int 0, .int 0, .ref m37, .ref m38, .ref m39, .ref m40, .long 0])), (m17, .inl (k 0, 30, .inl o_18))]) hP hD [1, 2] [0] rfl rfl (by decide) (by decide) hk1 hFc hP1 hD1
  clear hK1 hP1 hD1 hPc hDc hFc
  clear hk1 hz1 ht hvm
  have hP : va_P D vwCl [(m16, .inl (k 0, 5, .inl (upd fl 4 0))), (mo, .inr (12, [.int 0, .ref m1, .ref m2, .ref m3, .ref m4, .ref m5, .int 0, .int 0, .int 0, .int 0, .int 0, .long 0, .int 0, .int 0, .int 0, .int (-1), .ref m16, .ref m17, .ref m18, .ref m19, .ref m20, .ref m21, .ref m22, .ref m23, .int 0, .ref m25, .ref m26, .ref m27, .ref m28, .ref m29, .int 0, .ref m31, .ref m32, .ref m33, .int 0, .int 0, .int 0, .ref m37, .ref m38, .ref m39, .ref m40, .long 0])), (m17, .inl (k 0, 30, .inl o_18))] H1 := hP
  have hD : va_D A [(m16, .inl (k 0, 5, .inl (upd fl 4 0))), (mo, .inr (12, [.int 0, .ref m1, .ref m2, .ref m3, .ref m4, .ref m5, .int 0, .int 0, .int 0, .int 0, .int 0, .long 0, .int 0, .int 0, .int 0, .int (-1), .ref m16, .ref m17, .ref m18, .ref m19, .ref m20, .ref m21, .ref m22, .ref m23, .int 0, .ref m25, .ref m26, .ref m27, .ref m28, .ref m29, .int 0, .ref m31, .ref m32, .ref m33, .int 0, .int 0, .int 0, .ref m37, .ref m38, .ref m39, .ref m40, .long 0])), (m17, .inl (k 0, 30, .inl o_18))] := hD
  generalize H1 = H at hP hS ⊢
  have hw_19 : (∀ j : Nat, o_14 j = (0 : Int32)) → ∀ j : Nat, o_18 j = (0 : Int32) := hw
  clear hw
  refine lv_iinc (v := 5) (lv' := [(1, .int 5), (0, .ref mo)]) hx hb dX12_clears_21 hl (k := 0) rfl (by decide) (by decide) rfl (fun ls hl => ?_)
  refine lv_goto (tgt := 9) hx hb dX12_clears_24 (by decide) ?_
  refine lv_iload_n hx hb dX12_clears_9 rfl (lv_at hl 0 rfl) ?_
  refine lv_bipush (v := 6) hx hb dX12_clears_10 (by decide) ?_
  refine lv_icmp_ge (tgt := 27) hx hb dX12_clears_12 (by decide) (fun c9 => absurd c9 (by decide)) (fun _ => ?_)
  refine lv_aload_n hx hb dX12_clears_15 rfl (lv_at hl 1 rfl) ?_
  refine lv_iload_n hx hb dX12_clears_16 rfl (lv_at hl 0 rfl) ?_
  refine lv_iconst (v := 0) hx hb dX12_clears_17 (by decide) ?_
  have hPc := hP.sub (ws' := [(mo, .inr (12, [.int 0, .ref m1, .ref m2, .ref m3, .ref m4, .ref m5, .int 0, .int 0, .int 0, .int 0, .int 0, .long 0, .int 0, .int 0, .int 0, .int (-1), .ref m16, .ref m17, .ref m18, .ref m19, .ref m20, .ref m21, .ref m22, .ref m23, .int 0, .ref m25, .ref m26, .ref m27, .ref m28, .ref m29, .int 0, .ref m31, .ref m32, .ref m33, .int 0, .int 0, .int 0, .ref m37, .ref m38, .ref m39, .ref m40, .long 0])), (m17, .inl (k 0, 30, .inl o_18))]) [1, 2] rfl
  have hDc := hD.sub (ws' := [(mo, .inr (12, [.int 0, .ref m1, .ref m2, .ref m3, .ref m4, .ref m5, .int 0, .int 0, .int 0, .int 0, .int 0, .long 0, .int 0, .int 0, .int 0, .int (-1), .ref m16, .ref m17, .ref m18, .ref m19, .ref m20, .ref m21, .ref m22, .ref m23, .int 0, .ref m25, .ref m26, .ref m27, .ref m28, .ref m29, .int 0, .ref m31, .ref m32, .ref m33, .int 0, .int 0, .int 0, .ref m37, .ref m38, .ref m39, .ref m40, .long 0])), (m17, .inl (k 0, 30, .inl o_18))]) [1, 2] (by decide) rfl
  have hFc := va_free (wc := [(mo, .inr (12, [.int 0, .ref m1, .ref m2, .ref m3, .ref m4, .ref m5, .int 0, .int 0, .int 0, .int 0, .int 0, .long 0, .int 0, .int 0, .int 0, .int (-1), .ref m16, .ref m17, .ref m18, .ref m19, .ref m20, .ref m21, .ref m22, .ref m23, .int 0, .ref m25, .ref m26, .ref m27, .ref m28, .ref m29, .int 0, .ref m31, .ref m32, .ref m33, .int 0, .int 0, .int 0, .ref m37, .ref m38, .ref m39, .ref m40, .long 0])), (m17, .inl (k 0, 30, .inl o_18))]) hD hS hA [1, 2] rfl
  refine va_callv (va_runV (C := RX12) (As := [.int 5, .int 0]) (rest := []) ⟨hx, hb, hml, hown, hts⟩ (c_X12_tells l D k mo m1 m2 m3 m4 m5 m16 m17 m18 m19 m20 m21 m22 m23 m25 m26 m27 m28 m29 m31 m32 m33 m37 m38 m39 m40 o_18 5 H.size (show 0 ≤ 5 from by omega) (show 5 ≤ 5 from by omega)) (cwV 2 hts (gV tw_6_226 tw_6_228 tw_p_37 tw_1_13 tw_6_229) rfl rfl rfl hdV_X12_tells ⟨Nat.le_of_ble_eq_true rfl, Nat.le_of_ble_eq_true rfl⟩) (cz_V hK hPc hDc hN (ci := 12) (q0 := 0) rfl rfl [.int 5, .int 0]) rfl rfl hl.1 rfl (lv_room (Nat.le_of_ble_eq_true rfl)) dX12_clears_18 ⟨Nat.le_of_ble_eq_true rfl, Nat.le_of_ble_eq_true rfl⟩) hS (fun q _ h => hFc q h) hFc (fun uZ tZ H1 locs ht hvm hw hB hz1 hk1 hS => ?_)
  obtain ⟨o_22, rfl⟩ : ∃ z, z = uZ := ⟨_, rfl⟩
  obtain ⟨hP1, hK1, hD1⟩ := hB
  rw [ht] at hP1
  obtain ⟨hP, hD⟩ := va_join (wr := [(m16, .inl (k 0, 5, .inl (upd fl 4 0)))]) (w1 := [(mo, .inr (12, [.int 0, .ref m1, .ref m2, .ref m3, .ref m4, .ref m5, .int 0, .int 0, .int 0, .int 0, .int 0, .long 0, .int 0, .int 0, .int 0, .int (-1), .ref m16, .ref m17, .ref m18, .ref m19, .ref m20, .ref m21, .ref m22, .ref m23, .int 0, .ref m25, .ref m26, .ref m27, .ref m28, .ref m29, .int 0, .ref m31, .ref m32, .ref m33, .int 0, .int 0, .int 0, .ref m37, .ref m38, .ref m39, .ref m40, .long 0])), (m17, .inl (k 0, 30, .inl o_22))]) hP hD [1, 2] [0] rfl rfl (by decide) (by decide) hk1 hFc hP1 hD1
  clear hK1 hP1 hD1 hPc hDc hFc
  clear hk1 hz1 ht hvm
  have hP : va_P D vwCl [(m16, .inl (k 0, 5, .inl (upd fl 4 0))), (mo, .inr (12, [.int 0, .ref m1, .ref m2, .ref m3, .ref m4, .ref m5, .int 0, .int 0, .int 0, .int 0, .int 0, .long 0, .int 0, .int 0, .int 0, .int (-1), .ref m16, .ref m17, .ref m18, .ref m19, .ref m20, .ref m21, .ref m22, .ref m23, .int 0, .ref m25, .ref m26, .ref m27, .ref m28, .ref m29, .int 0, .ref m31, .ref m32, .ref m33, .int 0, .int 0, .int 0, .ref m37, .ref m38, .ref m39, .ref m40, .long 0])), (m17, .inl (k 0, 30, .inl o_22))] H1 := hP
  have hD : va_D A [(m16, .inl (k 0, 5, .inl (upd fl 4 0))), (mo, .inr (12, [.int 0, .ref m1, .ref m2, .ref m3, .ref m4, .ref m5, .int 0, .int 0, .int 0, .int 0, .int 0, .long 0, .int 0, .int 0, .int 0, .int (-1), .ref m16, .ref m17, .ref m18, .ref m19, .ref m20, .ref m21, .ref m22, .ref m23, .int 0, .ref m25, .ref m26, .ref m27, .ref m28, .ref m29, .int 0, .ref m31, .ref m32, .ref m33, .int 0, .int 0, .int 0, .ref m37, .ref m38, .ref m39, .ref m40, .long 0])), (m17, .inl (k 0, 30, .inl o_22))] := hD
  generalize H1 = H at hP hS ⊢
  have hw_23 : (∀ j : Nat, o_18 j = (0 : Int32)) → ∀ j : Nat, o_22 j = (0 : Int32) := hw
  clear hw
  refine lv_iinc (v := 6) (lv' := [(1, .int 6), (0, .ref mo)]) hx hb dX12_clears_21 hl (k := 0) rfl (by decide) (by decide) rfl (fun ls hl => ?_)
  refine lv_goto (tgt := 9) hx hb dX12_clears_24 (by decide) ?_
  refine lv_iload_n hx hb dX12_clears_9 rfl (lv_at hl 0 rfl) ?_
  refine lv_bipush (v := 6) hx hb dX12_clears_10 (by decide) ?_
  refine lv_icmp_ge (tgt := 27) hx hb dX12_clears_12 (by decide) (fun _ => ?_) (fun c9 => absurd c9 (by decide))
  have hP9 := hP.sub (ws' := [(mo, .inr (12, [.int 0, .ref m1, .ref m2, .ref m3, .ref m4, .ref m5, .int 0, .int 0, .int 0, .int 0, .int 0, .long 0, .int 0, .int 0, .int 0, .int (-1), .ref m16, .ref m17, .ref m18, .ref m19, .ref m20, .ref m21, .ref m22, .ref m23, .int 0, .ref m25, .ref m26, .ref m27, .ref m28, .ref m29, .int 0, .ref m31, .ref m32, .ref m33, .int 0, .int 0, .int 0, .ref m37, .ref m38, .ref m39, .ref m40, .long 0])), (m16, .inl (k 0, 5, .inl (upd fl 4 0))), (m17, .inl (k 0, 30, .inl o_22))]) [1, 0, 2] rfl
  have hD9 := hD.sub (ws' := [(mo, .inr (12, [.int 0, .ref m1, .ref m2, .ref m3, .ref m4, .ref m5, .int 0, .int 0, .int 0, .int 0, .int 0, .long 0, .int 0, .int 0, .int 0, .int (-1), .ref m16, .ref m17, .ref m18, .ref m19, .ref m20, .ref m21, .ref m22, .ref m23, .int 0, .ref m25, .ref m26, .ref m27, .ref m28, .ref m29, .int 0, .ref m31, .ref m32, .ref m33, .int 0, .int 0, .int 0, .ref m37, .ref m38, .ref m39, .ref m40, .long 0])), (m16, .inl (k 0, 5, .inl (upd fl 4 0))), (m17, .inl (k 0, 30, .inl o_22))]) [1, 0, 2] (by decide) rfl
  exact W.vret hx hb hr (fun tZ ht hW => ⟨⟨(upd fl 4 0, o_22), rfl, (fun h1 h2 => ⟨upd0 h1, (hw_23 (hw_19 (hw_15 (hw_11 (hw_7 (hw_3 h2))))))⟩), by rw [ht]; exact hP9, va_K.moved hW.alike hK, hD9⟩, hS.F ht⟩) hS.2.2 dX12_clears_27
set_option maxHeartbeats 4000000 in
set_option maxRecDepth 100000 in
theorem c_X12_isByte (l : Launch) (D : va_G) (k : Nat → ClassId) (mo : Nat) (m1 : Nat) (m2 : Nat) (m3 : Nat) (m4 : Nat) (m5 : Nat) (m16 : Nat) (m17 : Nat) (m18 : Nat) (m19 : Nat) (m20 : Nat) (m21 : Nat) (m22 : Nat) (m23 : Nat) (m25 : Nat) (m26 : Nat) (m27 : Nat) (m28 : Nat) (m29 : Nat) (m31 : Nat) (m32 : Nat) (m33 : Nat) (m37 : Nat) (m38 : Nat) (m39 : Nat) (m40 : Nat) (p1 : Int32) (p2 : Int32) (sz : Nat) : Met l yX12_isByte (ww yX12_isByte cX12_isByte 4 (some .boolean)) ({ frames := 0, cells := 0, slots := 0, locals := 0 }) (Pre0 D k [(mo, .inr (12, [.int 0, .ref m1, .ref m2, .ref m3, .ref m4, .ref m5, .int 0, .int 0, .int 0, .int 0, .int 0, .long 0, .int 0, .int (-1), .int 0, .int (-1), .ref m16, .ref m17, .ref m18, .ref m19, .ref m20, .ref m21, .ref m22, .ref m23, .int 0, .ref m25, .ref m26, .ref m27, .ref m28, .ref m29, .int 0, .ref m31, .ref m32, .ref m33, .int 0, .int 0, .int 0, .ref m37, .ref m38, .ref m39, .ref m40, .long 0]))] sz [.ref mo, .int 0, .int p1, .int p2]) (va_Qi (fun (r : Int32) (_ : Unit) => r = 0) (fun (_ : Unit) tZ => Bw D k (va_A [(mo, .inr (12, [.int 0, .ref m1, .ref m2, .ref m3, .ref m4, .ref m5, .int 0, .int 0, .int 0, .int 0, .int 0, .long 0, .int 0, .int (-1), .int 0, .int (-1), .ref m16, .ref m17, .ref m18, .ref m19, .ref m20, .ref m21, .ref m22, .ref m23, .int 0, .ref m25, .ref m26, .ref m27, .ref m28, .ref m29, .int 0, .ref m31, .ref m32, .ref m33, .int 0, .int 0, .int 0, .ref m37, .ref m38, .ref m39, .ref m40, .long 0]))] sz) [(mo, .inr (12, [.int 0, .ref m1, .ref m2, .ref m3, .ref m4, .ref m5, .int 0, .int 0, .int 0, .int 0, .int 0, .long 0, .int 0, .int (-1), .int 0, .int (-1), .ref m16, .ref m17, .ref m18, .ref m19, .ref m20, .ref m21, .ref m22, .ref m23, .int 0, .ref m25, .ref m26, .ref m27, .ref m28, .ref m29, .int 0, .ref m31, .ref m32, .ref m33, .int 0, .int 0, .int 0, .ref m37, .ref m38, .ref m39, .ref m40, .long 0]))] tZ) (va_A [(mo, .inr (12, [.int 0, .ref m1, .ref m2, .ref m3, .ref m4, .ref m5, .int 0, .int 0, .int 0, .int 0, .int 0, .long 0, .int 0, .int (-1), .int 0, .int (-1), .ref m16, .ref m17, .ref m18, .ref m19, .ref m20, .ref m21, .ref m22, .ref m23, .int 0, .ref m25, .ref m26, .ref m27, .ref m28, .ref m29, .int 0, .ref m31, .ref m32, .ref m33, .int 0, .int 0, .int 0, .ref m37, .ref m38, .ref m39, .ref m40, .long 0]))] sz)) 0 0 (va_A [(mo, .inr (12, [.int 0, .ref m1, .ref m2, .ref m3, .ref m4, .ref m5, .int 0, .int 0, .int 0, .int 0, .int 0, .long 0, .int 0, .int (-1), .int 0, .int (-1), .ref m16, .ref m17, .ref m18, .ref m19, .ref m20, .ref m21, .ref m22, .ref m23, .int 0, .ref m25, .ref m26, .ref m27, .ref m28, .ref m29, .int 0, .ref m31, .ref m32, .ref m33, .int 0, .int 0, .int 0, .ref m37, .ref m38, .ref m39, .ref m40, .long 0]))] sz) := by
  refine Met.ofW (cc := cX12_isByte) (maxL := 4) (ret := (some .boolean)) (by decide +kernel) rfl ?_
  intro p e s m args below meth c s₁ B hml hv
  obtain ⟨rfl, hsz, hP, hK, hD0, hN⟩ := hv
  have hx := B.exec
  have hb := B.bytes
  have hr := B.returns
  have hts : ∀ w ∈ TT, w.before _ s = true := fun w h => atoms_spec (ws := ww yX12_isByte cX12_isByte 4 (some .boolean)) B.pre w (List.mem_cons_of_mem _ h)
  have hown : s.vm.findClass RX12 = some m.cls := findClass_of_methodNamed B.named
  have hlocks := B.notSynchronized
  subst hsz
  have hD := hD0.self (sz := s.heap.size)
  generalize hAe : va_A [(mo, .inr (12, [.int 0, .ref m1, .ref m2, .ref m3, .ref m4, .ref m5, .int 0, .int 0, .int 0, .int 0, .int 0, .long 0, .int 0, .int (-1), .int 0, .int (-1), .ref m16, .ref m17, .ref m18, .ref m19, .ref m20, .ref m21, .ref m22, .ref m23, .int 0, .ref m25, .ref m26, .ref m27, .ref m28, .ref m29, .int 0, .ref m31, .ref m32, .ref m33, .int 0, .int 0, .int 0, .ref m37, .ref m38, .ref m39, .ref m40, .long 0]))] s.heap.size = A at hD ⊢
  have hA : ∀ q : Nat, s.heap.size ≤ q → A q := fun q h => by rw [← hAe]; exact Or.inr h
  have hS : va_S A s.heap s.heap [] := va_S.rf
  have hl := lv_entry ([.ref mo, .int 0, .int p1, .int p2]) (n := 4) (Nat.le_of_ble_eq_true rfl)
  rw [lg_entry_eq]
  generalize (lg_sl ([.ref mo, .int 0, .int p1, .int p2]) ++ List.replicate (4 - (lg_sl ([.ref mo, .int 0, .int p1, .int p2])).length) Slot.unset).toArray = ls at hl ⊢
  have hl : lv_has ls 4 [(0, .ref mo), (1, .int 0), (2, .int p1), (3, .int p2)] := hl
  refine lv_iload_n hx hb dX12_isByte_0 rfl (lv_at hl 1 rfl) ?_
  refine lv_aload_n hx hb dX12_isByte_1 rfl (lv_at hl 0 rfl) ?_
  refine va_get (D := D) (ci := 12) (v := .int 0) (C := RX12) (T := TX12) (N := 42) hx hb hts iT_X12 hown hK hP 0 rfl rfl 6 (by decide) (hts _ tw_6_59) (fun _ h9 => h9) rfl dX12_isByte_2 ?_
  refine lv_icmp_ge (tgt := 32) hx hb dX12_isByte_5 (by decide) (fun _ => ?_) (fun c9 => absurd c9 (by decide))
  refine lv_iconst (v := 0) hx hb dX12_isByte_32 (by decide) ?_
  have hP9 := hP.sub (ws' := [(mo, .inr (12, [.int 0, .ref m1, .ref m2, .ref m3, .ref m4, .ref m5, .int 0, .int 0, .int 0, .int 0, .int 0, .long 0, .int 0, .int (-1), .int 0, .int (-1), .ref m16, .ref m17, .ref m18, .ref m19, .ref m20, .ref m21, .ref m22, .ref m23, .int 0, .ref m25, .ref m26, .ref m27, .ref m28, .ref m29, .int 0, .ref m31, .ref m32, .ref m33, .int 0, .int 0, .int 0, .ref m37, .ref m38, .ref m39, .ref m40, .long 0]))]) [0] rfl
  have hD9 := hD.sub (ws' := [(mo, .inr (12, [.int 0, .ref m1, .ref m2, .ref m3, .ref m4, .ref m5, .int 0, .int 0, .int 0, .int 0, .int 0, .long 0, .int 0, .int (-1), .int 0, .int (-1), .ref m16, .ref m17, .ref m18, .ref m19, .ref m20, .ref m21, .ref m22, .ref m23, .int 0, .ref m25, .ref m26, .ref m27, .ref m28, .ref m29, .int 0, .ref m31, .ref m32, .ref m33, .int 0, .int 0, .int 0, .ref m37, .ref m38, .ref m39, .ref m40, .long 0]))]) [0] (by decide) rfl
  exact W.zret (v := 0) hx hb hr (by decide) (fun tZ ht hW => ⟨⟨0, (), rfl, rfl, by rw [ht]; exact hP9, va_K.moved hW.alike hK, hD9⟩, hS.F ht⟩) hS.2.2 dX12_isByte_33
set_option maxHeartbeats 4000000 in
set_option maxRecDepth 100000 in
theorem c_X12_next (l : Launch) (D : va_G) (k : Nat → ClassId) (mo : Nat) (m1 : Nat) (m2 : Nat) (m3 : Nat) (m4 : Nat) (m5 : Nat) (m16 : Nat) (m17 : Nat) (m18 : Nat) (m19 : Nat) (m20 : Nat) (m21 : Nat) (m22 : Nat) (m23 : Nat) (m25 : Nat) (m26 : Nat) (m27 : Nat) (m28 : Nat) (m29 : Nat) (m31 : Nat) (m32 : Nat) (m33 : Nat) (m37 : Nat) (m38 : Nat) (m39 : Nat) (m40 : Nat) (sz : Nat) : Met l yX12_next (ww yX12_next cX12_next 2 none) ({ frames := 1, cells := 0, slots := 0, locals := 23 }) (Pre0 D k [(mo, .inr (12, [.int 0, .ref m1, .ref m2, .ref m3, .ref m4, .ref m5, .int 0, .int 0, .int 0, .int 0, .int 0, .long 0, .int 0, .int (-1), .int 0, .int (-1), .ref m16, .ref m17, .ref m18, .ref m19, .ref m20, .ref m21, .ref m22, .ref m23, .int 0, .ref m25, .ref m26, .ref m27, .ref m28, .ref m29, .int 0, .ref m31, .ref m32, .ref m33, .int 0, .int 0, .int 0, .ref m37, .ref m38, .ref m39, .ref m40, .long 0]))] sz [.ref mo]) (va_Qv (fun (_ : Unit) => True) (fun (_ : Unit) tZ => Bw D k (va_A [(mo, .inr (12, [.int 0, .ref m1, .ref m2, .ref m3, .ref m4, .ref m5, .int 0, .int 0, .int 0, .int 0, .int 0, .long 0, .int 0, .int (-1), .int 0, .int (-1), .ref m16, .ref m17, .ref m18, .ref m19, .ref m20, .ref m21, .ref m22, .ref m23, .int 0, .ref m25, .ref m26, .ref m27, .ref m28, .ref m29, .int 0, .ref m31, .ref m32, .ref m33, .int 0, .int 0, .int 0, .ref m37, .ref m38, .ref m39, .ref m40, .long 0]))] sz) [(mo, .inr (12, [.int 0, .ref m1, .ref m2, .ref m3, .ref m4, .ref m5, .int 0, .int 0, .int 0, .int 0, .int 0, .long 0, .int 0, .int (-1), .int 0, .int (-1), .ref m16, .ref m17, .ref m18, .ref m19, .ref m20, .ref m21, .ref m22, .ref m23, .int 0, .ref m25, .ref m26, .ref m27, .ref m28, .ref m29, .int 0, .ref m31, .ref m32, .ref m33, .int 0, .int 0, .int 0, .ref m37, .ref m38, .ref m39, .ref m40, .long 0]))] tZ) (va_A [(mo, .inr (12, [.int 0, .ref m1, .ref m2, .ref m3, .ref m4, .ref m5, .int 0, .int 0, .int 0, .int 0, .int 0, .long 0, .int 0, .int (-1), .int 0, .int (-1), .ref m16, .ref m17, .ref m18, .ref m19, .ref m20, .ref m21, .ref m22, .ref m23, .int 0, .ref m25, .ref m26, .ref m27, .ref m28, .ref m29, .int 0, .ref m31, .ref m32, .ref m33, .int 0, .int 0, .int 0, .ref m37, .ref m38, .ref m39, .ref m40, .long 0]))] sz)) 0 0 (va_A [(mo, .inr (12, [.int 0, .ref m1, .ref m2, .ref m3, .ref m4, .ref m5, .int 0, .int 0, .int 0, .int 0, .int 0, .long 0, .int 0, .int (-1), .int 0, .int (-1), .ref m16, .ref m17, .ref m18, .ref m19, .ref m20, .ref m21, .ref m22, .ref m23, .int 0, .ref m25, .ref m26, .ref m27, .ref m28, .ref m29, .int 0, .ref m31, .ref m32, .ref m33, .int 0, .int 0, .int 0, .ref m37, .ref m38, .ref m39, .ref m40, .long 0]))] sz) := by
  refine Met.ofW (cc := cX12_next) (maxL := 2) (ret := none) (by decide +kernel) rfl ?_
  intro p e s m args below meth c s₁ B hml hv
  obtain ⟨rfl, hsz, hP, hK, hD0, hN⟩ := hv
  have hx := B.exec
  have hb := B.bytes
  have hr := B.returns
  have hts : ∀ w ∈ TT, w.before _ s = true := fun w h => atoms_spec (ws := ww yX12_next cX12_next 2 none) B.pre w (List.mem_cons_of_mem _ h)
  have hown : s.vm.findClass RX12 = some m.cls := findClass_of_methodNamed B.named
  have hlocks := B.notSynchronized
  subst hsz
  have hD := hD0.self (sz := s.heap.size)
  generalize hAe : va_A [(mo, .inr (12, [.int 0, .ref m1, .ref m2, .ref m3, .ref m4, .ref m5, .int 0, .int 0, .int 0, .int 0, .int 0, .long 0, .int 0, .int (-1), .int 0, .int (-1), .ref m16, .ref m17, .ref m18, .ref m19, .ref m20, .ref m21, .ref m22, .ref m23, .int 0, .ref m25, .ref m26, .ref m27, .ref m28, .ref m29, .int 0, .ref m31, .ref m32, .ref m33, .int 0, .int 0, .int 0, .ref m37, .ref m38, .ref m39, .ref m40, .long 0]))] s.heap.size = A at hD ⊢
  have hA : ∀ q : Nat, s.heap.size ≤ q → A q := fun q h => by rw [← hAe]; exact Or.inr h
  have hS : va_S A s.heap s.heap [] := va_S.rf
  have hl := lv_entry ([.ref mo]) (n := 2) (Nat.le_of_ble_eq_true rfl)
  rw [lg_entry_eq]
  generalize (lg_sl ([.ref mo]) ++ List.replicate (2 - (lg_sl ([.ref mo])).length) Slot.unset).toArray = ls at hl ⊢
  have hl : lv_has ls 2 [(0, .ref mo)] := hl
  refine lv_aload_n hx hb dX12_next_0 rfl (lv_at hl 0 rfl) ?_
  refine lv_aload_n hx hb dX12_next_1 rfl (lv_at hl 0 rfl) ?_
  refine va_get (D := D) (ci := 12) (v := .int 0) (C := RX12) (T := TX12) (N := 42) hx hb hts iT_X12 hown hK hP 0 rfl rfl 7 (by decide) (hts _ tw_6_60) (fun _ h9 => h9) rfl dX12_next_2 ?_
  refine lv_bipush (v := 32) hx hb dX12_next_5 (by decide) ?_
  refine lv_bipush (v := 32) hx hb dX12_next_7 (by decide) ?_
  have hPc := hP.sub (ws' := [(mo, .inr (12, [.int 0, .ref m1, .ref m2, .ref m3, .ref m4, .ref m5, .int 0, .int 0, .int 0, .int 0, .int 0, .long 0, .int 0, .int (-1), .int 0, .int (-1), .ref m16, .ref m17, .ref m18, .ref m19, .ref m20, .ref m21, .ref m22, .ref m23, .int 0, .ref m25, .ref m26, .ref m27, .ref m28, .ref m29, .int 0, .ref m31, .ref m32, .ref m33, .int 0, .int 0, .int 0, .ref m37, .ref m38, .ref m39, .ref m40, .long 0]))]) [0] rfl
  have hDc := hD.sub (ws' := [(mo, .inr (12, [.int 0, .ref m1, .ref m2, .ref m3, .ref m4, .ref m5, .int 0, .int 0, .int 0, .int 0, .int 0, .long 0, .int 0, .int (-1), .int 0, .int (-1), .ref m16, .ref m17, .ref m18, .ref m19, .ref m20, .ref m21, .ref m22, .ref m23, .int 0, .ref m25, .ref m26, .ref m27, .ref m28, .ref m29, .int 0, .ref m31, .ref m32, .ref m33, .int 0, .int 0, .int 0, .ref m37, .ref m38, .ref m39, .ref m40, .long 0]))]) [0] (by decide) rfl
  have hFc := va_free (wc := [(mo, .inr (12, [.int 0, .ref m1, .ref m2, .ref m3, .ref m4, .ref m5, .int 0, .int 0, .int 0, .int 0, .int 0, .long 0, .int 0, .int (-1), .int 0, .int (-1), .ref m16, .ref m17, .ref m18, .ref m19, .ref m20, .ref m21, .ref m22, .ref m23, .int 0, .ref m25, .ref m26, .ref m27, .ref m28, .ref m29, .int 0, .ref m31, .ref m32, .ref m33, .int 0, .int 0, .int 0, .ref m37, .ref m38, .ref m39, .ref m40, .long 0]))]) hD hS hA [0] rfl
  refine va_calli (va_runV (C := RX12) (As := [.int 0, .int 32, .int 32]) (rest := []) ⟨hx, hb, hml, hown, hts⟩ (c_X12_isByte l D k mo m1 m2 m3 m4 m5 m16 m17 m18 m19 m20 m21 m22 m23 m25 m26 m27 m28 m29 m31 m32 m33 m37 m38 m39 m40 32 32 s.heap.size) (cwV 3 hts (gV tw_6_238 tw_7_0 tw_p_40 tw_1_13 tw_7_1) rfl rfl rfl hdV_X12_isByte ⟨Nat.le_of_ble_eq_true rfl, Nat.le_of_ble_eq_true rfl⟩) (cz_V hK hPc hDc hN (ci := 12) (q0 := 0) rfl rfl [.int 0, .int 32, .int 32]) rfl rfl hl.1 rfl (lv_room (Nat.le_of_ble_eq_true rfl)) dX12_next_9 ⟨Nat.le_of_ble_eq_true rfl, Nat.le_of_ble_eq_true rfl⟩) hS (fun q _ h => hFc q h) hFc (fun r_1 uZ tZ H1 locs ht hvm hw hB hz1 hk1 hS => ?_)
  obtain ⟨hP1, hK1, hD1⟩ := hB
  rw [ht] at hP1
  obtain ⟨hP, hD⟩ := va_join (wr := []) (w1 := [(mo, .inr (12, [.int 0, .ref m1, .ref m2, .ref m3, .ref m4, .ref m5, .int 0, .int 0, .int 0, .int 0, .int 0, .long 0, .int 0, .int (-1), .int 0, .int (-1), .ref m16, .ref m17, .ref m18, .ref m19, .ref m20, .ref m21, .ref m22, .ref m23, .int 0, .ref m25, .ref m26, .ref m27, .ref m28, .ref m29, .int 0, .ref m31, .ref m32, .ref m33, .int 0, .int 0, .int 0, .ref m37, .ref m38, .ref m39, .ref m40, .long 0]))]) hP hD [0] [] rfl rfl (by decide) (by decide) hk1 hFc hP1 hD1
  clear hK1 hP1 hD1 hPc hDc hFc
  clear hk1 hz1 ht hvm
  have hP : va_P D vwCl [(mo, .inr (12, [.int 0, .ref m1, .ref m2, .ref m3, .ref m4, .ref m5, .int 0, .int 0, .int 0, .int 0, .int 0, .long 0, .int 0, .int (-1), .int 0, .int (-1), .ref m16, .ref m17, .ref m18, .ref m19, .ref m20, .ref m21, .ref m22, .ref m23, .int 0, .ref m25, .ref m26, .ref m27, .ref m28, .ref m29, .int 0, .ref m31, .ref m32, .ref m33, .int 0, .int 0, .int 0, .ref m37, .ref m38, .ref m39, .ref m40, .long 0]))] H1 := hP
  have hD : va_D A [(mo, .inr (12, [.int 0, .ref m1, .ref m2, .ref m3, .ref m4, .ref m5, .int 0, .int 0, .int 0, .int 0, .int 0, .long 0, .int 0, .int (-1), .int 0, .int (-1), .ref m16, .ref m17, .ref m18, .ref m19, .ref m20, .ref m21, .ref m22, .ref m23, .int 0, .ref m25, .ref m26, .ref m27, .ref m28, .ref m29, .int 0, .ref m31, .ref m32, .ref m33, .int 0, .int 0, .int 0, .ref m37, .ref m38, .ref m39, .ref m40, .long 0]))] := hD
  generalize H1 = H at hP hS ⊢
  obtain rfl : r_1 = 0 := hw
  refine lv_if_ne (tgt := 30) hx hb dX12_next_12 (by decide) (fun c9 => absurd c9 (by decide)) (fun _ => ?_)
  refine lv_aload_n hx hb dX12_next_15 rfl (lv_at hl 0 rfl) ?_
  refine lv_aload_n hx hb dX12_next_16 rfl (lv_at hl 0 rfl) ?_
  refine va_get (D := D) (ci := 12) (v := .int 0) (C := RX12) (T := TX12) (N := 42) hx hb hts iT_X12 hown hK hP 0 rfl rfl 7 (by decide) (hts _ tw_6_60) (fun _ h9 => h9) rfl dX12_next_17 ?_
  refine lv_bipush (v := 10) hx hb dX12_next_20 (by decide) ?_
  refine lv_bipush (v := 10) hx hb dX12_next_22 (by decide) ?_
  have hPc := hP.sub (ws' := [(mo, .inr (12, [.int 0, .ref m1, .ref m2, .ref m3, .ref m4, .ref m5, .int 0, .int 0, .int 0, .int 0, .int 0, .long 0, .int 0, .int (-1), .int 0, .int (-1), .ref m16, .ref m17, .ref m18, .ref m19, .ref m20, .ref m21, .ref m22, .ref m23, .int 0, .ref m25, .ref m26, .ref m27, .ref m28, .ref m29, .int 0, .ref m31, .ref m32, .ref m33, .int 0, .int 0, .int 0, .ref m37, .ref m38, .ref m39, .ref m40, .long 0]))]) [0] rfl
  have hDc := hD.sub (ws' := [(mo, .inr (12, [.int 0, .ref m1, .ref m2, .ref m3, .ref m4, .ref m5, .int 0, .int 0, .int 0, .int 0, .int 0, .long 0, .int 0, .int (-1), .int 0, .int (-1), .ref m16, .ref m17, .ref m18, .ref m19, .ref m20, .ref m21, .ref m22, .ref m23, .int 0, .ref m25, .ref m26, .ref m27, .ref m28, .ref m29, .int 0, .ref m31, .ref m32, .ref m33, .int 0, .int 0, .int 0, .ref m37, .ref m38, .ref m39, .ref m40, .long 0]))]) [0] (by decide) rfl
  have hFc := va_free (wc := [(mo, .inr (12, [.int 0, .ref m1, .ref m2, .ref m3, .ref m4, .ref m5, .int 0, .int 0, .int 0, .int 0, .int 0, .long 0, .int 0, .int (-1), .int 0, .int (-1), .ref m16, .ref m17, .ref m18, .ref m19, .ref m20, .ref m21, .ref m22, .ref m23, .int 0, .ref m25, .ref m26, .ref m27, .ref m28, .ref m29, .int 0, .ref m31, .ref m32, .ref m33, .int 0, .int 0, .int 0, .ref m37, .ref m38, .ref m39, .ref m40, .long 0]))]) hD hS hA [0] rfl
  refine va_calli (va_runV (C := RX12) (As := [.int 0, .int 10, .int 10]) (rest := []) ⟨hx, hb, hml, hown, hts⟩ (c_X12_isByte l D k mo m1 m2 m3 m4 m5 m16 m17 m18 m19 m20 m21 m22 m23 m25 m26 m27 m28 m29 m31 m32 m33 m37 m38 m39 m40 10 10 H.size) (cwV 3 hts (gV tw_6_238 tw_7_0 tw_p_40 tw_1_13 tw_7_1) rfl rfl rfl hdV_X12_isByte ⟨Nat.le_of_ble_eq_true rfl, Nat.le_of_ble_eq_true rfl⟩) (cz_V hK hPc hDc hN (ci := 12) (q0 := 0) rfl rfl [.int 0, .int 10, .int 10]) rfl rfl hl.1 rfl (lv_room (Nat.le_of_ble_eq_true rfl)) dX12_next_24 ⟨Nat.le_of_ble_eq_true rfl, Nat.le_of_ble_eq_true rfl⟩) hS (fun q _ h => hFc q h) hFc (fun r_2 uZ tZ H1 locs ht hvm hw hB hz1 hk1 hS => ?_)
  obtain ⟨hP1, hK1, hD1⟩ := hB
  rw [ht] at hP1
  obtain ⟨hP, hD⟩ := va_join (wr := []) (w1 := [(mo, .inr (12, [.int 0, .ref m1, .ref m2, .ref m3, .ref m4, .ref m5, .int 0, .int 0, .int 0, .int 0, .int 0, .long 0, .int 0, .int (-1), .int 0, .int (-1), .ref m16, .ref m17, .ref m18, .ref m19, .ref m20, .ref m21, .ref m22, .ref m23, .int 0, .ref m25, .ref m26, .ref m27, .ref m28, .ref m29, .int 0, .ref m31, .ref m32, .ref m33, .int 0, .int 0, .int 0, .ref m37, .ref m38, .ref m39, .ref m40, .long 0]))]) hP hD [0] [] rfl rfl (by decide) (by decide) hk1 hFc hP1 hD1
  clear hK1 hP1 hD1 hPc hDc hFc
  clear hk1 hz1 ht hvm
  have hP : va_P D vwCl [(mo, .inr (12, [.int 0, .ref m1, .ref m2, .ref m3, .ref m4, .ref m5, .int 0, .int 0, .int 0, .int 0, .int 0, .long 0, .int 0, .int (-1), .int 0, .int (-1), .ref m16, .ref m17, .ref m18, .ref m19, .ref m20, .ref m21, .ref m22, .ref m23, .int 0, .ref m25, .ref m26, .ref m27, .ref m28, .ref m29, .int 0, .ref m31, .ref m32, .ref m33, .int 0, .int 0, .int 0, .ref m37, .ref m38, .ref m39, .ref m40, .long 0]))] H1 := hP
  have hD : va_D A [(mo, .inr (12, [.int 0, .ref m1, .ref m2, .ref m3, .ref m4, .ref m5, .int 0, .int 0, .int 0, .int 0, .int 0, .long 0, .int 0, .int (-1), .int 0, .int (-1), .ref m16, .ref m17, .ref m18, .ref m19, .ref m20, .ref m21, .ref m22, .ref m23, .int 0, .ref m25, .ref m26, .ref m27, .ref m28, .ref m29, .int 0, .ref m31, .ref m32, .ref m33, .int 0, .int 0, .int 0, .ref m37, .ref m38, .ref m39, .ref m40, .long 0]))] := hD
  generalize H1 = H at hP hS ⊢
  obtain rfl : r_2 = 0 := hw
  refine lv_if_eq (tgt := 43) hx hb dX12_next_27 (by decide) (fun _ => ?_) (fun c9 => absurd c9 (by decide))
  refine lv_aload_n hx hb dX12_next_43 rfl (lv_at hl 0 rfl) ?_
  refine lv_aload_n hx hb dX12_next_44 rfl (lv_at hl 0 rfl) ?_
  refine va_get (D := D) (ci := 12) (v := .int 0) (C := RX12) (T := TX12) (N := 42) hx hb hts iT_X12 hown hK hP 0 rfl rfl 7 (by decide) (hts _ tw_6_60) (fun _ h9 => h9) rfl dX12_next_45 ?_
  refine va_put (D := D) (ci := 12) (v := .int 0) (ty := tyX12 9) (C := RX12) (T := TX12) (N := 42) hx hb hts iT_X12 tyX12 tyX12_ok nmX12 hown hK hP hD hS 0 rfl rfl 9 (by decide) (hts _ tw_6_62) (fun _ h9 => h9) rfl (tyX12_ok 9 (by decide)) rfl rfl (Nat.le_of_ble_eq_true rfl) dX12_next_48 (fun H locs hP hD hS => ?_)
  have hP : va_P D vwCl [(mo, .inr (12, [.int 0, .ref m1, .ref m2, .ref m3, .ref m4, .ref m5, .int 0, .int 0, .int 0, .int 0, .int 0, .long 0, .int 0, .int (-1), .int 0, .int (-1), .ref m16, .ref m17, .ref m18, .ref m19, .ref m20, .ref m21, .ref m22, .ref m23, .int 0, .ref m25, .ref m26, .ref m27, .ref m28, .ref m29, .int 0, .ref m31, .ref m32, .ref m33, .int 0, .int 0, .int 0, .ref m37, .ref m38, .ref m39, .ref m40, .long 0]))] H := hP
  have hD : va_D A [(mo, .inr (12, [.int 0, .ref m1, .ref m2, .ref m3, .ref m4, .ref m5, .int 0, .int 0, .int 0, .int 0, .int 0, .long 0, .int 0, .int (-1), .int 0, .int (-1), .ref m16, .ref m17, .ref m18, .ref m19, .ref m20, .ref m21, .ref m22, .ref m23, .int 0, .ref m25, .ref m26, .ref m27, .ref m28, .ref m29, .int 0, .ref m31, .ref m32, .ref m33, .int 0, .int 0, .int 0, .ref m37, .ref m38, .ref m39, .ref m40, .long 0]))] := hD
  refine lv_aload_n hx hb dX12_next_51 rfl (lv_at hl 0 rfl) ?_
  refine lv_iconst (v := 0) hx hb dX12_next_52 (by decide) ?_
  refine va_put (D := D) (ci := 12) (v := .int 0) (ty := tyX12 10) (C := RX12) (T := TX12) (N := 42) hx hb hts iT_X12 tyX12 tyX12_ok nmX12 hown hK hP hD hS 0 rfl rfl 10 (by decide) (hts _ tw_6_63) (fun _ h9 => h9) rfl (tyX12_ok 10 (by decide)) rfl rfl (Nat.le_of_ble_eq_true rfl) dX12_next_53 (fun H locs hP hD hS => ?_)
  have hP : va_P D vwCl [(mo, .inr (12, [.int 0, .ref m1, .ref m2, .ref m3, .ref m4, .ref m5, .int 0, .int 0, .int 0, .int 0, .int 0, .long 0, .int 0, .int (-1), .int 0, .int (-1), .ref m16, .ref m17, .ref m18, .ref m19, .ref m20, .ref m21, .ref m22, .ref m23, .int 0, .ref m25, .ref m26, .ref m27, .ref m28, .ref m29, .int 0, .ref m31, .ref m32, .ref m33, .int 0, .int 0, .int 0, .ref m37, .ref m38, .ref m39, .ref m40, .long 0]))] H := hP
  have hD : va_D A [(mo, .inr (12, [.int 0, .ref m1, .ref m2, .ref m3, .ref m4, .ref m5, .int 0, .int 0, .int 0, .int 0, .int 0, .long 0, .int 0, .int (-1), .int 0, .int (-1), .ref m16, .ref m17, .ref m18, .ref m19, .ref m20, .ref m21, .ref m22, .ref m23, .int 0, .ref m25, .ref m26, .ref m27, .ref m28, .ref m29, .int 0, .ref m31, .ref m32, .ref m33, .int 0, .int 0, .int 0, .ref m37, .ref m38, .ref m39, .ref m40, .long 0]))] := hD
  refine lv_aload_n hx hb dX12_next_56 rfl (lv_at hl 0 rfl) ?_
  refine lv_lconst (v := 0) hx hb dX12_next_57 (by decide) ?_
  refine va_put (D := D) (ci := 12) (v := .long 0) (ty := tyX12 11) (C := RX12) (T := TX12) (N := 42) hx hb hts iT_X12 tyX12 tyX12_ok nmX12 hown hK hP hD hS 0 rfl rfl 11 (by decide) (hts _ tw_6_64) (fun _ h9 => h9) rfl (tyX12_ok 11 (by decide)) rfl rfl (Nat.le_of_ble_eq_true rfl) dX12_next_58 (fun H locs hP hD hS => ?_)
  have hP : va_P D vwCl [(mo, .inr (12, [.int 0, .ref m1, .ref m2, .ref m3, .ref m4, .ref m5, .int 0, .int 0, .int 0, .int 0, .int 0, .long 0, .int 0, .int (-1), .int 0, .int (-1), .ref m16, .ref m17, .ref m18, .ref m19, .ref m20, .ref m21, .ref m22, .ref m23, .int 0, .ref m25, .ref m26, .ref m27, .ref m28, .ref m29, .int 0, .ref m31, .ref m32, .ref m33, .int 0, .int 0, .int 0, .ref m37, .ref m38, .ref m39, .ref m40, .long 0]))] H := hP
  have hD : va_D A [(mo, .inr (12, [.int 0, .ref m1, .ref m2, .ref m3, .ref m4, .ref m5, .int 0, .int 0, .int 0, .int 0, .int 0, .long 0, .int 0, .int (-1), .int 0, .int (-1), .ref m16, .ref m17, .ref m18, .ref m19, .ref m20, .ref m21, .ref m22, .ref m23, .int 0, .ref m25, .ref m26, .ref m27, .ref m28, .ref m29, .int 0, .ref m31, .ref m32, .ref m33, .int 0, .int 0, .int 0, .ref m37, .ref m38, .ref m39, .ref m40, .long 0]))] := hD
  refine lv_aload_n hx hb dX12_next_61 rfl (lv_at hl 0 rfl) ?_
  refine va_get (D := D) (ci := 12) (v := .int 0) (C := RX12) (T := TX12) (N := 42) hx hb hts iT_X12 hown hK hP 0 rfl rfl 7 (by decide) (hts _ tw_6_60) (fun _ h9 => h9) rfl dX12_next_62 ?_
  refine lv_aload_n hx hb dX12_next_65 rfl (lv_at hl 0 rfl) ?_
  refine va_get (D := D) (ci := 12) (v := .int 0) (C := RX12) (T := TX12) (N := 42) hx hb hts iT_X12 hown hK hP 0 rfl rfl 6 (by decide) (hts _ tw_6_59) (fun _ h9 => h9) rfl dX12_next_66 ?_
  refine lv_icmp_ne (tgt := 80) hx hb dX12_next_69 (by decide) (fun c9 => absurd c9 (by decide)) (fun _ => ?_)
  refine lv_aload_n hx hb dX12_next_72 rfl (lv_at hl 0 rfl) ?_
  refine lv_iconst (v := 0) hx hb dX12_next_73 (by decide) ?_
  refine va_put (D := D) (ci := 12) (v := .int 0) (ty := tyX12 8) (C := RX12) (T := TX12) (N := 42) hx hb hts iT_X12 tyX12 tyX12_ok nmX12 hown hK hP hD hS 0 rfl rfl 8 (by decide) (hts _ tw_6_61) (fun _ h9 => h9) rfl (tyX12_ok 8 (by decide)) rfl rfl (Nat.le_of_ble_eq_true rfl) dX12_next_74 (fun H locs hP hD hS => ?_)
  have hP : va_P D vwCl [(mo, .inr (12, [.int 0, .ref m1, .ref m2, .ref m3, .ref m4, .ref m5, .int 0, .int 0, .int 0, .int 0, .int 0, .long 0, .int 0, .int (-1), .int 0, .int (-1), .ref m16, .ref m17, .ref m18, .ref m19, .ref m20, .ref m21, .ref m22, .ref m23, .int 0, .ref m25, .ref m26, .ref m27, .ref m28, .ref m29, .int 0, .ref m31, .ref m32, .ref m33, .int 0, .int 0, .int 0, .ref m37, .ref m38, .ref m39, .ref m40, .long 0]))] H := hP
  have hD : va_D A [(mo, .inr (12, [.int 0, .ref m1, .ref m2, .ref m3, .ref m4, .ref m5, .int 0, .int 0, .int 0, .int 0, .int 0, .long 0, .int 0, .int (-1), .int 0, .int (-1), .ref m16, .ref m17, .ref m18, .ref m19, .ref m20, .ref m21, .ref m22, .ref m23, .int 0, .ref m25, .ref m26, .ref m27, .ref m28, .ref m29, .int 0, .ref m31, .ref m32, .ref m33, .int 0, .int 0, .int 0, .ref m37, .ref m38, .ref m39, .ref m40, .long 0]))] := hD
  refine lv_goto (tgt := 307) hx hb dX12_next_77 (by decide) ?_
  have hP9 := hP.sub (ws' := [(mo, .inr (12, [.int 0, .ref m1, .ref m2, .ref m3, .ref m4, .ref m5, .int 0, .int 0, .int 0, .int 0, .int 0, .long 0, .int 0, .int (-1), .int 0, .int (-1), .ref m16, .ref m17, .ref m18, .ref m19, .ref m20, .ref m21, .ref m22, .ref m23, .int 0, .ref m25, .ref m26, .ref m27, .ref m28, .ref m29, .int 0, .ref m31, .ref m32, .ref m33, .int 0, .int 0, .int 0, .ref m37, .ref m38, .ref m39, .ref m40, .long 0]))]) [0] rfl
  have hD9 := hD.sub (ws' := [(mo, .inr (12, [.int 0, .ref m1, .ref m2, .ref m3, .ref m4, .ref m5, .int 0, .int 0, .int 0, .int 0, .int 0, .long 0, .int 0, .int (-1), .int 0, .int (-1), .ref m16, .ref m17, .ref m18, .ref m19, .ref m20, .ref m21, .ref m22, .ref m23, .int 0, .ref m25, .ref m26, .ref m27, .ref m28, .ref m29, .int 0, .ref m31, .ref m32, .ref m33, .int 0, .int 0, .int 0, .ref m37, .ref m38, .ref m39, .ref m40, .long 0]))]) [0] (by decide) rfl
  exact W.vret hx hb hr (fun tZ ht hW => ⟨⟨(), rfl, trivial, by rw [ht]; exact hP9, va_K.moved hW.alike hK, hD9⟩, hS.F ht⟩) hS.2.2 dX12_next_307
set_option maxHeartbeats 4000000 in
set_option maxRecDepth 100000 in
theorem c_X12_begins (l : Launch) (D : va_G) (k : Nat → ClassId) (mo : Nat) (m1 : Nat) (m2 : Nat) (m3 : Nat) (m4 : Nat) (m5 : Nat) (m16 : Nat) (m17 : Nat) (m18 : Nat) (m19 : Nat) (m20 : Nat) (m21 : Nat) (m22 : Nat) (m23 : Nat) (m25 : Nat) (m26 : Nat) (m27 : Nat) (m28 : Nat) (m29 : Nat) (m31 : Nat) (m32 : Nat) (m33 : Nat) (m37 : Nat) (m38 : Nat) (m39 : Nat) (m40 : Nat) (sz : Nat) : Met l yX12_begins (ww yX12_begins cX12_begins 1 none) ({ frames := 2, cells := 0, slots := 0, locals := 44 }) (Pre0 D k [(mo, .inr (12, [.int 0, .ref m1, .ref m2, .ref m3, .ref m4, .ref m5, .int 0, .int 0, .int 0, .int 0, .int 0, .long 0, .int 0, .int 0, .int 0, .int (-1), .ref m16, .ref m17, .ref m18, .ref m19, .ref m20, .ref m21, .ref m22, .ref m23, .int 0, .ref m25, .ref m26, .ref m27, .ref m28, .ref m29, .int 0, .ref m31, .ref m32, .ref m33, .int 0, .int 0, .int 0, .ref m37, .ref m38, .ref m39, .ref m40, .long 0]))] sz [.ref mo]) (va_Qv (fun (_ : Unit) => True) (fun (_ : Unit) tZ => Bw D k (va_A [(mo, .inr (12, [.int 0, .ref m1, .ref m2, .ref m3, .ref m4, .ref m5, .int 0, .int 0, .int 0, .int 0, .int 0, .long 0, .int 0, .int 0, .int 0, .int (-1), .ref m16, .ref m17, .ref m18, .ref m19, .ref m20, .ref m21, .ref m22, .ref m23, .int 0, .ref m25, .ref m26, .ref m27, .ref m28, .ref m29, .int 0, .ref m31, .ref m32, .ref m33, .int 0, .int 0, .int 0, .ref m37, .ref m38, .ref m39, .ref m40, .long 0]))] sz) [(mo, .inr (12, [.int 0, .ref m1, .ref m2, .ref m3, .ref m4, .ref m5, .int 0, .int 0, .int 0, .int 0, .int 0, .long 0, .int 0, .int (-1), .int 0, .int (-1), .ref m16, .ref m17, .ref m18, .ref m19, .ref m20, .ref m21, .ref m22, .ref m23, .int 0, .ref m25, .ref m26, .ref m27, .ref m28, .ref m29, .int 0, .ref m31, .ref m32, .ref m33, .int 0, .int 0, .int 0, .ref m37, .ref m38, .ref m39, .ref m40, .long 0]))] tZ) (va_A [(mo, .inr (12, [.int 0, .ref m1, .ref m2, .ref m3, .ref m4, .ref m5, .int 0, .int 0, .int 0, .int 0, .int 0, .long 0, .int 0, .int 0, .int 0, .int (-1), .ref m16, .ref m17, .ref m18, .ref m19, .ref m20, .ref m21, .ref m22, .ref m23, .int 0, .ref m25, .ref m26, .ref m27, .ref m28, .ref m29, .int 0, .ref m31, .ref m32, .ref m33, .int 0, .int 0, .int 0, .ref m37, .ref m38, .ref m39, .ref m40, .long 0]))] sz)) 0 0 (va_A [(mo, .inr (12, [.int 0, .ref m1, .ref m2, .ref m3, .ref m4, .ref m5, .int 0, .int 0, .int 0, .int 0, .int 0, .long 0, .int 0, .int 0, .int 0, .int (-1), .ref m16, .ref m17, .ref m18, .ref m19, .ref m20, .ref m21, .ref m22, .ref m23, .int 0, .ref m25, .ref m26, .ref m27, .ref m28, .ref m29, .int 0, .ref m31, .ref m32, .ref m33, .int 0, .int 0, .int 0, .ref m37, .ref m38, .ref m39, .ref m40, .long 0]))] sz) := by
  refine Met.ofW (cc := cX12_begins) (maxL := 1) (ret := none) (by decide +kernel) rfl ?_
  intro p e s m args below meth c s₁ B hml hv
  obtain ⟨rfl, hsz, hP, hK, hD0, hN⟩ := hv
  have hx := B.exec
  have hb := B.bytes
  have hr := B.returns
  have hts : ∀ w ∈ TT, w.before _ s = true := fun w h => atoms_spec (ws := ww yX12_begins cX12_begins 1 none) B.pre w (List.mem_cons_of_mem _ h)
  have hown : s.vm.findClass RX12 = some m.cls := findClass_of_methodNamed B.named
  have hlocks := B.notSynchronized
  subst hsz
  have hD := hD0.self (sz := s.heap.size)
  generalize hAe : va_A [(mo, .inr (12, [.int 0, .ref m1, .ref m2, .ref m3, .ref m4, .ref m5, .int 0, .int 0, .int 0, .int 0, .int 0, .long 0, .int 0, .int 0, .int 0, .int (-1), .ref m16, .ref m17, .ref m18, .ref m19, .ref m20, .ref m21, .ref m22, .ref m23, .int 0, .ref m25, .ref m26, .ref m27, .ref m28, .ref m29, .int 0, .ref m31, .ref m32, .ref m33, .int 0, .int 0, .int 0, .ref m37, .ref m38, .ref m39, .ref m40, .long 0]))] s.heap.size = A at hD ⊢
  have hA : ∀ q : Nat, s.heap.size ≤ q → A q := fun q h => by rw [← hAe]; exact Or.inr h
  have hS : va_S A s.heap s.heap [] := va_S.rf
  have hl := lv_entry ([.ref mo]) (n := 1) (Nat.le_of_ble_eq_true rfl)
  rw [lg_entry_eq]
  generalize (lg_sl ([.ref mo]) ++ List.replicate (1 - (lg_sl ([.ref mo])).length) Slot.unset).toArray = ls at hl ⊢
  have hl : lv_has ls 1 [(0, .ref mo)] := hl
  refine lv_aload_n hx hb dX12_begins_0 rfl (lv_at hl 0 rfl) ?_
  refine lv_iconst (v := 0) hx hb dX12_begins_1 (by decide) ?_
  refine va_put (D := D) (ci := 12) (v := .int 0) (ty := tyX12 12) (C := RX12) (T := TX12) (N := 42) hx hb hts iT_X12 tyX12 tyX12_ok nmX12 hown hK hP hD hS 0 rfl rfl 12 (by decide) (hts _ tw_6_65) (fun _ h9 => h9) rfl (tyX12_ok 12 (by decide)) rfl rfl (Nat.le_of_ble_eq_true rfl) dX12_begins_2 (fun H locs hP hD hS => ?_)
  have hP : va_P D vwCl [(mo, .inr (12, [.int 0, .ref m1, .ref m2, .ref m3, .ref m4, .ref m5, .int 0, .int 0, .int 0, .int 0, .int 0, .long 0, .int 0, .int 0, .int 0, .int (-1), .ref m16, .ref m17, .ref m18, .ref m19, .ref m20, .ref m21, .ref m22, .ref m23, .int 0, .ref m25, .ref m26, .ref m27, .ref m28, .ref m29, .int 0, .ref m31, .ref m32, .ref m33, .int 0, .int 0, .int 0, .ref m37, .ref m38, .ref m39, .ref m40, .long 0]))] H := hP
  have hD : va_D A [(mo, .inr (12, [.int 0, .ref m1, .ref m2, .ref m3, .ref m4, .ref m5, .int 0, .int 0, .int 0, .int 0, .int 0, .long 0, .int 0, .int 0, .int 0, .int (-1), .ref m16, .ref m17, .ref m18, .ref m19, .ref m20, .ref m21, .ref m22, .ref m23, .int 0, .ref m25, .ref m26, .ref m27, .ref m28, .ref m29, .int 0, .ref m31, .ref m32, .ref m33, .int 0, .int 0, .int 0, .ref m37, .ref m38, .ref m39, .ref m40, .long 0]))] := hD
  refine lv_aload_n hx hb dX12_begins_5 rfl (lv_at hl 0 rfl) ?_
  refine lv_iconst (v := (-1)) hx hb dX12_begins_6 (by decide) ?_
  refine va_put (D := D) (ci := 12) (v := .int (-1)) (ty := tyX12 13) (C := RX12) (T := TX12) (N := 42) hx hb hts iT_X12 tyX12 tyX12_ok nmX12 hown hK hP hD hS 0 rfl rfl 13 (by decide) (hts _ tw_6_66) (fun _ h9 => h9) rfl (tyX12_ok 13 (by decide)) rfl rfl (Nat.le_of_ble_eq_true rfl) dX12_begins_7 (fun H locs hP hD hS => ?_)
  have hP : va_P D vwCl [(mo, .inr (12, [.int 0, .ref m1, .ref m2, .ref m3, .ref m4, .ref m5, .int 0, .int 0, .int 0, .int 0, .int 0, .long 0, .int 0, .int (-1), .int 0, .int (-1), .ref m16, .ref m17, .ref m18, .ref m19, .ref m20, .ref m21, .ref m22, .ref m23, .int 0, .ref m25, .ref m26, .ref m27, .ref m28, .ref m29, .int 0, .ref m31, .ref m32, .ref m33, .int 0, .int 0, .int 0, .ref m37, .ref m38, .ref m39, .ref m40, .long 0]))] H := hP
  have hD : va_D A [(mo, .inr (12, [.int 0, .ref m1, .ref m2, .ref m3, .ref m4, .ref m5, .int 0, .int 0, .int 0, .int 0, .int 0, .long 0, .int 0, .int (-1), .int 0, .int (-1), .ref m16, .ref m17, .ref m18, .ref m19, .ref m20, .ref m21, .ref m22, .ref m23, .int 0, .ref m25, .ref m26, .ref m27, .ref m28, .ref m29, .int 0, .ref m31, .ref m32, .ref m33, .int 0, .int 0, .int 0, .ref m37, .ref m38, .ref m39, .ref m40, .long 0]))] := hD
  refine lv_aload_n hx hb dX12_begins_10 rfl (lv_at hl 0 rfl) ?_
  refine lv_iconst (v := 0) hx hb dX12_begins_11 (by decide) ?_
  refine va_put (D := D) (ci := 12) (v := .int 0) (ty := tyX12 7) (C := RX12) (T := TX12) (N := 42) hx hb hts iT_X12 tyX12 tyX12_ok nmX12 hown hK hP hD hS 0 rfl rfl 7 (by decide) (hts _ tw_6_60) (fun _ h9 => h9) rfl (tyX12_ok 7 (by decide)) rfl rfl (Nat.le_of_ble_eq_true rfl) dX12_begins_12 (fun H locs hP hD hS => ?_)
  have hP : va_P D vwCl [(mo, .inr (12, [.int 0, .ref m1, .ref m2, .ref m3, .ref m4, .ref m5, .int 0, .int 0, .int 0, .int 0, .int 0, .long 0, .int 0, .int (-1), .int 0, .int (-1), .ref m16, .ref m17, .ref m18, .ref m19, .ref m20, .ref m21, .ref m22, .ref m23, .int 0, .ref m25, .ref m26, .ref m27, .ref m28, .ref m29, .int 0, .ref m31, .ref m32, .ref m33, .int 0, .int 0, .int 0, .ref m37, .ref m38, .ref m39, .ref m40, .long 0]))] H := hP
  have hD : va_D A [(mo, .inr (12, [.int 0, .ref m1, .ref m2, .ref m3, .ref m4, .ref m5, .int 0, .int 0, .int 0, .int 0, .int 0, .long 0, .int 0, .int (-1), .int 0, .int (-1), .ref m16, .ref m17, .ref m18, .ref m19, .ref m20, .ref m21, .ref m22, .ref m23, .int 0, .ref m25, .ref m26, .ref m27, .ref m28, .ref m29, .int 0, .ref m31, .ref m32, .ref m33, .int 0, .int 0, .int 0, .ref m37, .ref m38, .ref m39, .ref m40, .long 0]))] := hD
  refine lv_aload_n hx hb dX12_begins_15 rfl (lv_at hl 0 rfl) ?_
  have hPc := hP.sub (ws' := [(mo, .inr (12, [.int 0, .ref m1, .ref m2, .ref m3, .ref m4, .ref m5, .int 0, .int 0, .int 0, .int 0, .int 0, .long 0, .int 0, .int (-1), .int 0, .int (-1), .ref m16, .ref m17, .ref m18, .ref m19, .ref m20, .ref m21, .ref m22, .ref m23, .int 0, .ref m25, .ref m26, .ref m27, .ref m28, .ref m29, .int 0, .ref m31, .ref m32, .ref m33, .int 0, .int 0, .int 0, .ref m37, .ref m38, .ref m39, .ref m40, .long 0]))]) [0] rfl
  have hDc := hD.sub (ws' := [(mo, .inr (12, [.int 0, .ref m1, .ref m2, .ref m3, .ref m4, .ref m5, .int 0, .int 0, .int 0, .int 0, .int 0, .long 0, .int 0, .int (-1), .int 0, .int (-1), .ref m16, .ref m17, .ref m18, .ref m19, .ref m20, .ref m21, .ref m22, .ref m23, .int 0, .ref m25, .ref m26, .ref m27, .ref m28, .ref m29, .int 0, .ref m31, .ref m32, .ref m33, .int 0, .int 0, .int 0, .ref m37, .ref m38, .ref m39, .ref m40, .long 0]))]) [0] (by decide) rfl
  have hFc := va_free (wc := [(mo, .inr (12, [.int 0, .ref m1, .ref m2, .ref m3, .ref m4, .ref m5, .int 0, .int 0, .int 0, .int 0, .int 0, .long 0, .int 0, .int (-1), .int 0, .int (-1), .ref m16, .ref m17, .ref m18, .ref m19, .ref m20, .ref m21, .ref m22, .ref m23, .int 0, .ref m25, .ref m26, .ref m27, .ref m28, .ref m29, .int 0, .ref m31, .ref m32, .ref m33, .int 0, .int 0, .int 0, .ref m37, .ref m38, .ref m39, .ref m40, .long 0]))]) hD hS hA [0] rfl
  refine va_callv (va_runV (C := RX12) (As := []) (rest := []) ⟨hx, hb, hml, hown, hts⟩ (c_X12_next l D k mo m1 m2 m3 m4 m5 m16 m17 m18 m19 m20 m21 m22 m23 m25 m26 m27 m28 m29 m31 m32 m33 m37 m38 m39 m40 H.size) (cwV 0 hts (gV tw_6_234 tw_6_236 tw_p_39 tw_1_13 tw_6_237) rfl rfl rfl hdV_X12_next ⟨Nat.le_of_ble_eq_true rfl, Nat.le_of_ble_eq_true rfl⟩) (cz_V hK hPc hDc hN (ci := 12) (q0 := 0) rfl rfl []) rfl rfl hl.1 rfl (lv_room (Nat.le_of_ble_eq_true rfl)) dX12_begins_16 ⟨Nat.le_of_ble_eq_true rfl, Nat.le_of_ble_eq_true rfl⟩) hS (fun q _ h => hFc q h) hFc (fun uZ tZ H1 locs ht hvm hw hB hz1 hk1 hS => ?_)
  obtain ⟨hP1, hK1, hD1⟩ := hB
  rw [ht] at hP1
  obtain ⟨hP, hD⟩ := va_join (wr := []) (w1 := [(mo, .inr (12, [.int 0, .ref m1, .ref m2, .ref m3, .ref m4, .ref m5, .int 0, .int 0, .int 0, .int 0, .int 0, .long 0, .int 0, .int (-1), .int 0, .int (-1), .ref m16, .ref m17, .ref m18, .ref m19, .ref m20, .ref m21, .ref m22, .ref m23, .int 0, .ref m25, .ref m26, .ref m27, .ref m28, .ref m29, .int 0, .ref m31, .ref m32, .ref m33, .int 0, .int 0, .int 0, .ref m37, .ref m38, .ref m39, .ref m40, .long 0]))]) hP hD [0] [] rfl rfl (by decide) (by decide) hk1 hFc hP1 hD1
  clear hK1 hP1 hD1 hPc hDc hFc
  clear hk1 hz1 ht hvm
  have hP : va_P D vwCl [(mo, .inr (12, [.int 0, .ref m1, .ref m2, .ref m3, .ref m4, .ref m5, .int 0, .int 0, .int 0, .int 0, .int 0, .long 0, .int 0, .int (-1), .int 0, .int (-1), .ref m16, .ref m17, .ref m18, .ref m19, .ref m20, .ref m21, .ref m22, .ref m23, .int 0, .ref m25, .ref m26, .ref m27, .ref m28, .ref m29, .int 0, .ref m31, .ref m32, .ref m33, .int 0, .int 0, .int 0, .ref m37, .ref m38, .ref m39, .ref m40, .long 0]))] H1 := hP
  have hD : va_D A [(mo, .inr (12, [.int 0, .ref m1, .ref m2, .ref m3, .ref m4, .ref m5, .int 0, .int 0, .int 0, .int 0, .int 0, .long 0, .int 0, .int (-1), .int 0, .int (-1), .ref m16, .ref m17, .ref m18, .ref m19, .ref m20, .ref m21, .ref m22, .ref m23, .int 0, .ref m25, .ref m26, .ref m27, .ref m28, .ref m29, .int 0, .ref m31, .ref m32, .ref m33, .int 0, .int 0, .int 0, .ref m37, .ref m38, .ref m39, .ref m40, .long 0]))] := hD
  generalize H1 = H at hP hS ⊢
  clear hw
  have hP9 := hP.sub (ws' := [(mo, .inr (12, [.int 0, .ref m1, .ref m2, .ref m3, .ref m4, .ref m5, .int 0, .int 0, .int 0, .int 0, .int 0, .long 0, .int 0, .int (-1), .int 0, .int (-1), .ref m16, .ref m17, .ref m18, .ref m19, .ref m20, .ref m21, .ref m22, .ref m23, .int 0, .ref m25, .ref m26, .ref m27, .ref m28, .ref m29, .int 0, .ref m31, .ref m32, .ref m33, .int 0, .int 0, .int 0, .ref m37, .ref m38, .ref m39, .ref m40, .long 0]))]) [0] rfl
  have hD9 := hD.sub (ws' := [(mo, .inr (12, [.int 0, .ref m1, .ref m2, .ref m3, .ref m4, .ref m5, .int 0, .int 0, .int 0, .int 0, .int 0, .long 0, .int 0, .int (-1), .int 0, .int (-1), .ref m16, .ref m17, .ref m18, .ref m19, .ref m20, .ref m21, .ref m22, .ref m23, .int 0, .ref m25, .ref m26, .ref m27, .ref m28, .ref m29, .int 0, .ref m31, .ref m32, .ref m33, .int 0, .int 0, .int 0, .ref m37, .ref m38, .ref m39, .ref m40, .long 0]))]) [0] (by decide) rfl
  exact W.vret hx hb hr (fun tZ ht hW => ⟨⟨(), rfl, trivial, by rw [ht]; exact hP9, va_K.moved hW.alike hK, hD9⟩, hS.F ht⟩) hS.2.2 dX12_begins_19
set_option maxHeartbeats 4000000 in
set_option maxRecDepth 100000 in
theorem c_X12_isGood (l : Launch) (D : va_G) (k : Nat → ClassId) (mo : Nat) (m1 : Nat) (m2 : Nat) (m3 : Nat) (m4 : Nat) (m5 : Nat) (m16 : Nat) (m17 : Nat) (m18 : Nat) (m19 : Nat) (m20 : Nat) (m21 : Nat) (m22 : Nat) (m23 : Nat) (m25 : Nat) (m26 : Nat) (m27 : Nat) (m28 : Nat) (m29 : Nat) (m31 : Nat) (m32 : Nat) (m33 : Nat) (m37 : Nat) (m38 : Nat) (m39 : Nat) (m40 : Nat) (sz : Nat) : Met l yX12_isGood (ww yX12_isGood cX12_isGood 1 (some .boolean)) ({ frames := 0, cells := 0, slots := 0, locals := 0 }) (Pre0 D k [(mo, .inr (12, [.int 0, .ref m1, .ref m2, .ref m3, .ref m4, .ref m5, .int 0, .int 0, .int 0, .int 0, .int 0, .long 0, .int 0, .int (-1), .int 0, .int (-1), .ref m16, .ref m17, .ref m18, .ref m19, .ref m20, .ref m21, .ref m22, .ref m23, .int 0, .ref m25, .ref m26, .ref m27, .ref m28, .ref m29, .int 0, .ref m31, .ref m32, .ref m33, .int 0, .int 0, .int 0, .ref m37, .ref m38, .ref m39, .ref m40, .long 0]))] sz [.ref mo]) (va_Qi (fun (r : Int32) (_ : Unit) => r = 1) (fun (_ : Unit) tZ => Bw D k (va_A [(mo, .inr (12, [.int 0, .ref m1, .ref m2, .ref m3, .ref m4, .ref m5, .int 0, .int 0, .int 0, .int 0, .int 0, .long 0, .int 0, .int (-1), .int 0, .int (-1), .ref m16, .ref m17, .ref m18, .ref m19, .ref m20, .ref m21, .ref m22, .ref m23, .int 0, .ref m25, .ref m26, .ref m27, .ref m28, .ref m29, .int 0, .ref m31, .ref m32, .ref m33, .int 0, .int 0, .int 0, .ref m37, .ref m38, .ref m39, .ref m40, .long 0]))] sz) [(mo, .inr (12, [.int 0, .ref m1, .ref m2, .ref m3, .ref m4, .ref m5, .int 0, .int 0, .int 0, .int 0, .int 0, .long 0, .int 0, .int (-1), .int 0, .int (-1), .ref m16, .ref m17, .ref m18, .ref m19, .ref m20, .ref m21, .ref m22, .ref m23, .int 0, .ref m25, .ref m26, .ref m27, .ref m28, .ref m29, .int 0, .ref m31, .ref m32, .ref m33, .int 0, .int 0, .int 0, .ref m37, .ref m38, .ref m39, .ref m40, .long 0]))] tZ) (va_A [(mo, .inr (12, [.int 0, .ref m1, .ref m2, .ref m3, .ref m4, .ref m5, .int 0, .int 0, .int 0, .int 0, .int 0, .long 0, .int 0, .int (-1), .int 0, .int (-1), .ref m16, .ref m17, .ref m18, .ref m19, .ref m20, .ref m21, .ref m22, .ref m23, .int 0, .ref m25, .ref m26, .ref m27, .ref m28, .ref m29, .int 0, .ref m31, .ref m32, .ref m33, .int 0, .int 0, .int 0, .ref m37, .ref m38, .ref m39, .ref m40, .long 0]))] sz)) 0 0 (va_A [(mo, .inr (12, [.int 0, .ref m1, .ref m2, .ref m3, .ref m4, .ref m5, .int 0, .int 0, .int 0, .int 0, .int 0, .long 0, .int 0, .int (-1), .int 0, .int (-1), .ref m16, .ref m17, .ref m18, .ref m19, .ref m20, .ref m21, .ref m22, .ref m23, .int 0, .ref m25, .ref m26, .ref m27, .ref m28, .ref m29, .int 0, .ref m31, .ref m32, .ref m33, .int 0, .int 0, .int 0, .ref m37, .ref m38, .ref m39, .ref m40, .long 0]))] sz) := by
  refine Met.ofW (cc := cX12_isGood) (maxL := 1) (ret := (some .boolean)) (by decide +kernel) rfl ?_
  intro p e s m args below meth c s₁ B hml hv
  obtain ⟨rfl, hsz, hP, hK, hD0, hN⟩ := hv
  have hx := B.exec
  have hb := B.bytes
  have hr := B.returns
  have hts : ∀ w ∈ TT, w.before _ s = true := fun w h => atoms_spec (ws := ww yX12_isGood cX12_isGood 1 (some .boolean)) B.pre w (List.mem_cons_of_mem _ h)
  have hown : s.vm.findClass RX12 = some m.cls := findClass_of_methodNamed B.named
  have hlocks := B.notSynchronized
  subst hsz
  have hD := hD0.self (sz := s.heap.size)
  generalize hAe : va_A [(mo, .inr (12, [.int 0, .ref m1, .ref m2, .ref m3, .ref m4, .ref m5, .int 0, .int 0, .int 0, .int 0, .int 0, .long 0, .int 0, .int (-1), .int 0, .int (-1), .ref m16, .ref m17, .ref m18, .ref m19, .ref m20, .ref m21, .ref m22, .ref m23, .int 0, .ref m25, .ref m26, .ref m27, .ref m28, .ref m29, .int 0, .ref m31, .ref m32, .ref m33, .int 0, .int 0, .int 0, .ref m37, .ref m38, .ref m39, .ref m40, .long 0]))] s.heap.size = A at hD ⊢
  have hA : ∀ q : Nat, s.heap.size ≤ q → A q := fun q h => by rw [← hAe]; exact Or.inr h
  have hS : va_S A s.heap s.heap [] := va_S.rf
  have hl := lv_entry ([.ref mo]) (n := 1) (Nat.le_of_ble_eq_true rfl)
  rw [lg_entry_eq]
  generalize (lg_sl ([.ref mo]) ++ List.replicate (1 - (lg_sl ([.ref mo])).length) Slot.unset).toArray = ls at hl ⊢
  have hl : lv_has ls 1 [(0, .ref mo)] := hl
  refine lv_aload_n hx hb dX12_isGood_0 rfl (lv_at hl 0 rfl) ?_
  refine va_get (D := D) (ci := 12) (v := .int 0) (C := RX12) (T := TX12) (N := 42) hx hb hts iT_X12 hown hK hP 0 rfl rfl 12 (by decide) (hts _ tw_6_65) (fun _ h9 => h9) rfl dX12_isGood_1 ?_
  refine lv_if_ne (tgt := 11) hx hb dX12_isGood_4 (by decide) (fun c9 => absurd c9 (by decide)) (fun _ => ?_)
  refine lv_iconst (v := 1) hx hb dX12_isGood_7 (by decide) ?_
  refine lv_goto (tgt := 12) hx hb dX12_isGood_8 (by decide) ?_
  have hP9 := hP.sub (ws' := [(mo, .inr (12, [.int 0, .ref m1, .ref m2, .ref m3, .ref m4, .ref m5, .int 0, .int 0, .int 0, .int 0, .int 0, .long 0, .int 0, .int (-1), .int 0, .int (-1), .ref m16, .ref m17, .ref m18, .ref m19, .ref m20, .ref m21, .ref m22, .ref m23, .int 0, .ref m25, .ref m26, .ref m27, .ref m28, .ref m29, .int 0, .ref m31, .ref m32, .ref m33, .int 0, .int 0, .int 0, .ref m37, .ref m38, .ref m39, .ref m40, .long 0]))]) [0] rfl
  have hD9 := hD.sub (ws' := [(mo, .inr (12, [.int 0, .ref m1, .ref m2, .ref m3, .ref m4, .ref m5, .int 0, .int 0, .int 0, .int 0, .int 0, .long 0, .int 0, .int (-1), .int 0, .int (-1), .ref m16, .ref m17, .ref m18, .ref m19, .ref m20, .ref m21, .ref m22, .ref m23, .int 0, .ref m25, .ref m26, .ref m27, .ref m28, .ref m29, .int 0, .ref m31, .ref m32, .ref m33, .int 0, .int 0, .int 0, .ref m37, .ref m38, .ref m39, .ref m40, .long 0]))]) [0] (by decide) rfl
  exact W.zret (v := 1) hx hb hr (by decide) (fun tZ ht hW => ⟨⟨1, (), rfl, rfl, by rw [ht]; exact hP9, va_K.moved hW.alike hK, hD9⟩, hS.F ht⟩) hS.2.2 dX12_isGood_12
set_option maxHeartbeats 4000000 in
set_option maxRecDepth 100000 in
theorem c_X12_isOver (l : Launch) (D : va_G) (k : Nat → ClassId) (mo : Nat) (m1 : Nat) (m2 : Nat) (m3 : Nat) (m4 : Nat) (m5 : Nat) (m16 : Nat) (m17 : Nat) (m18 : Nat) (m19 : Nat) (m20 : Nat) (m21 : Nat) (m22 : Nat) (m23 : Nat) (m25 : Nat) (m26 : Nat) (m27 : Nat) (m28 : Nat) (m29 : Nat) (m31 : Nat) (m32 : Nat) (m33 : Nat) (m37 : Nat) (m38 : Nat) (m39 : Nat) (m40 : Nat) (sz : Nat) : Met l yX12_isOver (ww yX12_isOver cX12_isOver 1 none) ({ frames := 0, cells := 0, slots := 0, locals := 0 }) (Pre0 D k [(mo, .inr (12, [.int 0, .ref m1, .ref m2, .ref m3, .ref m4, .ref m5, .int 0, .int 0, .int 0, .int 0, .int 0, .long 0, .int 0, .int (-1), .int 0, .int (-1), .ref m16, .ref m17, .ref m18, .ref m19, .ref m20, .ref m21, .ref m22, .ref m23, .int 0, .ref m25, .ref m26, .ref m27, .ref m28, .ref m29, .int 0, .ref m31, .ref m32, .ref m33, .int 0, .int 0, .int 0, .ref m37, .ref m38, .ref m39, .ref m40, .long 0]))] sz [.ref mo]) (va_Qv (fun (_ : Unit) => True) (fun (_ : Unit) tZ => Bw D k (va_A [(mo, .inr (12, [.int 0, .ref m1, .ref m2, .ref m3, .ref m4, .ref m5, .int 0, .int 0, .int 0, .int 0, .int 0, .long 0, .int 0, .int (-1), .int 0, .int (-1), .ref m16, .ref m17, .ref m18, .ref m19, .ref m20, .ref m21, .ref m22, .ref m23, .int 0, .ref m25, .ref m26, .ref m27, .ref m28, .ref m29, .int 0, .ref m31, .ref m32, .ref m33, .int 0, .int 0, .int 0, .ref m37, .ref m38, .ref m39, .ref m40, .long 0]))] sz) [(mo, .inr (12, [.int 0, .ref m1, .ref m2, .ref m3, .ref m4, .ref m5, .int 0, .int 0, .int 0, .int 0, .int 0, .long 0, .int 0, .int (-1), .int 0, .int (-1), .ref m16, .ref m17, .ref m18, .ref m19, .ref m20, .ref m21, .ref m22, .ref m23, .int 0, .ref m25, .ref m26, .ref m27, .ref m28, .ref m29, .int 0, .ref m31, .ref m32, .ref m33, .int 0, .int 0, .int 0, .ref m37, .ref m38, .ref m39, .ref m40, .long 0]))] tZ) (va_A [(mo, .inr (12, [.int 0, .ref m1, .ref m2, .ref m3, .ref m4, .ref m5, .int 0, .int 0, .int 0, .int 0, .int 0, .long 0, .int 0, .int (-1), .int 0, .int (-1), .ref m16, .ref m17, .ref m18, .ref m19, .ref m20, .ref m21, .ref m22, .ref m23, .int 0, .ref m25, .ref m26, .ref m27, .ref m28, .ref m29, .int 0, .ref m31, .ref m32, .ref m33, .int 0, .int 0, .int 0, .ref m37, .ref m38, .ref m39, .ref m40, .long 0]))] sz)) 0 0 (va_A [(mo, .inr (12, [.int 0, .ref m1, .ref m2, .ref m3, .ref m4, .ref m5, .int 0, .int 0, .int 0, .int 0, .int 0, .long 0, .int 0, .int (-1), .int 0, .int (-1), .ref m16, .ref m17, .ref m18, .ref m19, .ref m20, .ref m21, .ref m22, .ref m23, .int 0, .ref m25, .ref m26, .ref m27, .ref m28, .ref m29, .int 0, .ref m31, .ref m32, .ref m33, .int 0, .int 0, .int 0, .ref m37, .ref m38, .ref m39, .ref m40, .long 0]))] sz) := by
  refine Met.ofW (cc := cX12_isOver) (maxL := 1) (ret := none) (by decide +kernel) rfl ?_
  intro p e s m args below meth c s₁ B hml hv
  obtain ⟨rfl, hsz, hP, hK, hD0, hN⟩ := hv
  have hx := B.exec
  have hb := B.bytes
  have hr := B.returns
  have hts : ∀ w ∈ TT, w.before _ s = true := fun w h => atoms_spec (ws := ww yX12_isOver cX12_isOver 1 none) B.pre w (List.mem_cons_of_mem _ h)
  have hown : s.vm.findClass RX12 = some m.cls := findClass_of_methodNamed B.named
  have hlocks := B.notSynchronized
  subst hsz
  have hD := hD0.self (sz := s.heap.size)
  generalize hAe : va_A [(mo, .inr (12, [.int 0, .ref m1, .ref m2, .ref m3, .ref m4, .ref m5, .int 0, .int 0, .int 0, .int 0, .int 0, .long 0, .int 0, .int (-1), .int 0, .int (-1), .ref m16, .ref m17, .ref m18, .ref m19, .ref m20, .ref m21, .ref m22, .ref m23, .int 0, .ref m25, .ref m26, .ref m27, .ref m28, .ref m29, .int 0, .ref m31, .ref m32, .ref m33, .int 0, .int 0, .int 0, .ref m37, .ref m38, .ref m39, .ref m40, .long 0]))] s.heap.size = A at hD ⊢
  have hA : ∀ q : Nat, s.heap.size ≤ q → A q := fun q h => by rw [← hAe]; exact Or.inr h
  have hS : va_S A s.heap s.heap [] := va_S.rf
  have hl := lv_entry ([.ref mo]) (n := 1) (Nat.le_of_ble_eq_true rfl)
  rw [lg_entry_eq]
  generalize (lg_sl ([.ref mo]) ++ List.replicate (1 - (lg_sl ([.ref mo])).length) Slot.unset).toArray = ls at hl ⊢
  have hl : lv_has ls 1 [(0, .ref mo)] := hl
  refine lv_aload_n hx hb dX12_isOver_0 rfl (lv_at hl 0 rfl) ?_
  refine lv_iconst (v := 0) hx hb dX12_isOver_1 (by decide) ?_
  refine va_put (D := D) (ci := 12) (v := .int 0) (ty := tyX12 6) (C := RX12) (T := TX12) (N := 42) hx hb hts iT_X12 tyX12 tyX12_ok nmX12 hown hK hP hD hS 0 rfl rfl 6 (by decide) (hts _ tw_6_59) (fun _ h9 => h9) rfl (tyX12_ok 6 (by decide)) rfl rfl (Nat.le_of_ble_eq_true rfl) dX12_isOver_2 (fun H locs hP hD hS => ?_)
  have hP : va_P D vwCl [(mo, .inr (12, [.int 0, .ref m1, .ref m2, .ref m3, .ref m4, .ref m5, .int 0, .int 0, .int 0, .int 0, .int 0, .long 0, .int 0, .int (-1), .int 0, .int (-1), .ref m16, .ref m17, .ref m18, .ref m19, .ref m20, .ref m21, .ref m22, .ref m23, .int 0, .ref m25, .ref m26, .ref m27, .ref m28, .ref m29, .int 0, .ref m31, .ref m32, .ref m33, .int 0, .int 0, .int 0, .ref m37, .ref m38, .ref m39, .ref m40, .long 0]))] H := hP
  have hD : va_D A [(mo, .inr (12, [.int 0, .ref m1, .ref m2, .ref m3, .ref m4, .ref m5, .int 0, .int 0, .int 0, .int 0, .int 0, .long 0, .int 0, .int (-1), .int 0, .int (-1), .ref m16, .ref m17, .ref m18, .ref m19, .ref m20, .ref m21, .ref m22, .ref m23, .int 0, .ref m25, .ref m26, .ref m27, .ref m28, .ref m29, .int 0, .ref m31, .ref m32, .ref m33, .int 0, .int 0, .int 0, .ref m37, .ref m38, .ref m39, .ref m40, .long 0]))] := hD
  refine lv_aload_n hx hb dX12_isOver_5 rfl (lv_at hl 0 rfl) ?_
  refine lv_aload_n hx hb dX12_isOver_6 rfl (lv_at hl 0 rfl) ?_
  refine va_get (D := D) (ci := 12) (v := .int 0) (C := RX12) (T := TX12) (N := 42) hx hb hts iT_X12 hown hK hP 0 rfl rfl 12 (by decide) (hts _ tw_6_65) (fun _ h9 => h9) rfl dX12_isOver_7 ?_
  refine va_put (D := D) (ci := 12) (v := .int 0) (ty := tyX12 14) (C := RX12) (T := TX12) (N := 42) hx hb hts iT_X12 tyX12 tyX12_ok nmX12 hown hK hP hD hS 0 rfl rfl 14 (by decide) (hts _ tw_6_67) (fun _ h9 => h9) rfl (tyX12_ok 14 (by decide)) rfl rfl (Nat.le_of_ble_eq_true rfl) dX12_isOver_10 (fun H locs hP hD hS => ?_)
  have hP : va_P D vwCl [(mo, .inr (12, [.int 0, .ref m1, .ref m2, .ref m3, .ref m4, .ref m5, .int 0, .int 0, .int 0, .int 0, .int 0, .long 0, .int 0, .int (-1), .int 0, .int (-1), .ref m16, .ref m17, .ref m18, .ref m19, .ref m20, .ref m21, .ref m22, .ref m23, .int 0, .ref m25, .ref m26, .ref m27, .ref m28, .ref m29, .int 0, .ref m31, .ref m32, .ref m33, .int 0, .int 0, .int 0, .ref m37, .ref m38, .ref m39, .ref m40, .long 0]))] H := hP
  have hD : va_D A [(mo, .inr (12, [.int 0, .ref m1, .ref m2, .ref m3, .ref m4, .ref m5, .int 0, .int 0, .int 0, .int 0, .int 0, .long 0, .int 0, .int (-1), .int 0, .int (-1), .ref m16, .ref m17, .ref m18, .ref m19, .ref m20, .ref m21, .ref m22, .ref m23, .int 0, .ref m25, .ref m26, .ref m27, .ref m28, .ref m29, .int 0, .ref m31, .ref m32, .ref m33, .int 0, .int 0, .int 0, .ref m37, .ref m38, .ref m39, .ref m40, .long 0]))] := hD
  refine lv_aload_n hx hb dX12_isOver_13 rfl (lv_at hl 0 rfl) ?_
  refine lv_aload_n hx hb dX12_isOver_14 rfl (lv_at hl 0 rfl) ?_
  refine va_get (D := D) (ci := 12) (v := .int 0) (C := RX12) (T := TX12) (N := 42) hx hb hts iT_X12 hown hK hP 0 rfl rfl 12 (by decide) (hts _ tw_6_65) (fun _ h9 => h9) rfl dX12_isOver_15 ?_
  refine lv_if_ne (tgt := 25) hx hb dX12_isOver_18 (by decide) (fun c9 => absurd c9 (by decide)) (fun _ => ?_)
  refine lv_iconst (v := (-1)) hx hb dX12_isOver_21 (by decide) ?_
  refine lv_goto (tgt := 29) hx hb dX12_isOver_22 (by decide) ?_
  refine va_put (D := D) (ci := 12) (v := .int (-1)) (ty := tyX12 15) (C := RX12) (T := TX12) (N := 42) hx hb hts iT_X12 tyX12 tyX12_ok nmX12 hown hK hP hD hS 0 rfl rfl 15 (by decide) (hts _ tw_6_68) (fun _ h9 => h9) rfl (tyX12_ok 15 (by decide)) rfl rfl (Nat.le_of_ble_eq_true rfl) dX12_isOver_29 (fun H locs hP hD hS => ?_)
  have hP : va_P D vwCl [(mo, .inr (12, [.int 0, .ref m1, .ref m2, .ref m3, .ref m4, .ref m5, .int 0, .int 0, .int 0, .int 0, .int 0, .long 0, .int 0, .int (-1), .int 0, .int (-1), .ref m16, .ref m17, .ref m18, .ref m19, .ref m20, .ref m21, .ref m22, .ref m23, .int 0, .ref m25, .ref m26, .ref m27, .ref m28, .ref m29, .int 0, .ref m31, .ref m32, .ref m33, .int 0, .int 0, .int 0, .ref m37, .ref m38, .ref m39, .ref m40, .long 0]))] H := hP
  have hD : va_D A [(mo, .inr (12, [.int 0, .ref m1, .ref m2, .ref m3, .ref m4, .ref m5, .int 0, .int 0, .int 0, .int 0, .int 0, .long 0, .int 0, .int (-1), .int 0, .int (-1), .ref m16, .ref m17, .ref m18, .ref m19, .ref m20, .ref m21, .ref m22, .ref m23, .int 0, .ref m25, .ref m26, .ref m27, .ref m28, .ref m29, .int 0, .ref m31, .ref m32, .ref m33, .int 0, .int 0, .int 0, .ref m37, .ref m38, .ref m39, .ref m40, .long 0]))] := hD
  have hP9 := hP.sub (ws' := [(mo, .inr (12, [.int 0, .ref m1, .ref m2, .ref m3, .ref m4, .ref m5, .int 0, .int 0, .int 0, .int 0, .int 0, .long 0, .int 0, .int (-1), .int 0, .int (-1), .ref m16, .ref m17, .ref m18, .ref m19, .ref m20, .ref m21, .ref m22, .ref m23, .int 0, .ref m25, .ref m26, .ref m27, .ref m28, .ref m29, .int 0, .ref m31, .ref m32, .ref m33, .int 0, .int 0, .int 0, .ref m37, .ref m38, .ref m39, .ref m40, .long 0]))]) [0] rfl
  have hD9 := hD.sub (ws' := [(mo, .inr (12, [.int 0, .ref m1, .ref m2, .ref m3, .ref m4, .ref m5, .int 0, .int 0, .int 0, .int 0, .int 0, .long 0, .int 0, .int (-1), .int 0, .int (-1), .ref m16, .ref m17, .ref m18, .ref m19, .ref m20, .ref m21, .ref m22, .ref m23, .int 0, .ref m25, .ref m26, .ref m27, .ref m28, .ref m29, .int 0, .ref m31, .ref m32, .ref m33, .int 0, .int 0, .int 0, .ref m37, .ref m38, .ref m39, .ref m40, .long 0]))]) [0] (by decide) rfl
  exact W.vret hx hb hr (fun tZ ht hW => ⟨⟨(), rfl, trivial, by rw [ht]; exact hP9, va_K.moved hW.alike hK, hD9⟩, hS.F ht⟩) hS.2.2 dX12_isOver_32
set_option maxHeartbeats 4000000 in
set_option maxRecDepth 100000 in
theorem c_X12_copyRow_5_4_0 (l : Launch) (D : va_G) (k : Nat → ClassId) (ra : Nat) (f : Nat → Int32) (sz : Nat) : Met l yX12_copyRow (ww yX12_copyRow cX12_copyRow 5 none) ({ frames := 0, cells := 0, slots := 0, locals := 0 }) (Pre0 D k [(ra, .inl (k 0, 5, .inl f))] sz [.ref ra, .int 1, .int 4, .int 0]) (va_Qv (fun (f2 : (Nat → Int32)) => (∀ j : Nat, f j = (0 : Int32)) → ∀ j : Nat, f2 j = (0 : Int32)) (fun (f2 : (Nat → Int32)) tZ => Bw D k (va_A [(ra, .inl (k 0, 5, .inl f))] sz) [(ra, .inl (k 0, 5, .inl f2))] tZ) (va_A [(ra, .inl (k 0, 5, .inl f))] sz)) 0 0 (va_A [(ra, .inl (k 0, 5, .inl f))] sz) := by
  refine Met.ofW (cc := cX12_copyRow) (maxL := 5) (ret := none) (by decide +kernel) rfl ?_
  intro p e s m args below meth c s₁ B hml hv
  obtain ⟨rfl, hsz, hP, hK, hD0, hN⟩ := hv
  have hx := B.exec
  have hb := B.bytes
  have hr := B.returns
  have hts : ∀ w ∈ TT, w.before _ s = true := fun w h => atoms_spec (ws := ww yX12_copyRow cX12_copyRow 5 none) B.pre w (List.mem_cons_of_mem _ h)
  have hown : s.vm.findClass RX12 = some m.cls := findClass_of_methodNamed B.named
  have hlocks := B.notSynchronized
  subst hsz
  have hD := hD0.self (sz := s.heap.size)
  generalize hAe : va_A [(ra, .inl (k 0, 5, .inl f))] s.heap.size = A at hD ⊢
  have hA : ∀ q : Nat, s.heap.size ≤ q → A q := fun q h => by rw [← hAe]; exact Or.inr h
  have hS : va_S A s.heap s.heap [] := va_S.rf
  have hl := lv_entry ([.ref ra, .int 1, .int 4, .int 0]) (n := 5) (Nat.le_of_ble_eq_true rfl)
  rw [lg_entry_eq]
  generalize (lg_sl ([.ref ra, .int 1, .int 4, .int 0]) ++ List.replicate (5 - (lg_sl ([.ref ra, .int 1, .int 4, .int 0])).length) Slot.unset).toArray = ls at hl ⊢
  have hl : lv_has ls 5 [(0, .ref ra), (1, .int 1), (2, .int 4), (3, .int 0)] := hl
  refine lv_iconst (v := 0) hx hb dX12_copyRow_0 (by decide) ?_
  refine lv_istore (lv' := [(4, .int 0), (0, .ref ra), (1, .int 1), (2, .int 4), (3, .int 0)]) hx hb dX12_copyRow_1 hl (by decide) rfl (fun ls hl => ?_)
  refine loop_r (Wg := fun H locs ls => W p l e _ s m _ below meth c H locs _ _ _ (F0 m 3 ls [])) (fun n9 H locs ls => ∃ (i : Int32) (gf : Nat → Int32), n9 = (1 - i.toInt).toNat ∧ (0 ≤ i.toInt) ∧ (i.toInt ≤ 1) ∧ ((∀ j : Nat, f j = (0 : Int32)) → ∀ j : Nat, gf j = (0 : Int32)) ∧ va_P D vwCl [(ra, .inl (k 0, 5, .inl gf))] H ∧ va_D A [(ra, .inl (k 0, 5, .inl gf))] ∧ va_S A s.heap H locs ∧ lv_has ls 5 [(4, .int i), (0, .ref ra), (1, .int 1), (2, .int 4), (3, .int 0)]) (fun n9 H locs ls hI ih_1 => ?_) _ _ _ _ ⟨0, f, rfl, (show 0 ≤ 0 from by omega), (show 0 ≤ 1 from by omega), (fun h => h), hP.sub (ws' := [(ra, .inl (k 0, 5, .inl f))]) [0] rfl, hD.sub (ws' := [(ra, .inl (k 0, 5, .inl f))]) [0] (by decide) rfl, hS, lv_sub hl [0, 1, 2, 3, 4] rfl⟩
  clear hP hD hS hl
  obtain ⟨i, gf, en_2, hi1, hi2, hz, hP, hD, hS, hl⟩ := hI
  refine lv_iload hx hb dX12_copyRow_3 (lv_at hl 0 rfl) ?_
  refine lv_iload_n hx hb dX12_copyRow_5 rfl (lv_at hl 2 rfl) ?_
  refine lv_icmp_ge (tgt := 31) hx hb dX12_copyRow_6 (by decide) (fun h_3 => ?_) (fun h_3 => ?_)
  · skip
    have zh_3 : 1 ≤ i.toInt := z_le h_3
    have hP9 := hP.sub (ws' := [(ra, .inl (k 0, 5, .inl gf))]) [0] rfl
    have hD9 := hD.sub (ws' := [(ra, .inl (k 0, 5, .inl gf))]) [0] (by decide) rfl
    exact W.vret hx hb hr (fun tZ ht hW => ⟨⟨gf, rfl, hz, by rw [ht]; exact hP9, va_K.moved hW.alike hK, hD9⟩, hS.F ht⟩) hS.2.2 dX12_copyRow_31
  · skip
    have zh_3 : i.toInt < 1 := z_nle h_3
    refine lv_aload_n hx hb dX12_copyRow_9 rfl (lv_at hl 1 rfl) ?_
    refine lv_iload_n hx hb dX12_copyRow_10 rfl (lv_at hl 2 rfl) ?_
    refine lv_iload_n hx hb dX12_copyRow_11 rfl (lv_at hl 4 rfl) ?_
    refine lv_imul hx hb dX12_copyRow_12 ?_
    refine lv_topi (fun x_4 ex_4 => ?_)
    obtain rfl : x_4 = 0 := ex_4.trans (by decide)
    refine lv_iload hx hb dX12_copyRow_13 (lv_at hl 0 rfl) ?_
    refine lv_iadd hx hb dX12_copyRow_15 ?_
    refine lv_topi (fun x_5 ex_5 => ?_)
    have zx_5 : x_5.toInt = 0 + i.toInt := by rw [ex_5]; exact z_add rfl rfl (by omega) (by omega)
    refine lv_aload_n hx hb dX12_copyRow_16 rfl (lv_at hl 1 rfl) ?_
    refine lv_iload_n hx hb dX12_copyRow_17 rfl (lv_at hl 2 rfl) ?_
    refine lv_iload_n hx hb dX12_copyRow_18 rfl (lv_at hl 3 rfl) ?_
    refine lv_imul hx hb dX12_copyRow_19 ?_
    refine lv_topi (fun x_6 ex_6 => ?_)
    obtain rfl : x_6 = 4 := ex_6.trans (by decide)
    refine lv_iload hx hb dX12_copyRow_20 (lv_at hl 0 rfl) ?_
    refine lv_iadd hx hb dX12_copyRow_22 ?_
    refine lv_topi (fun x_7 ex_7 => ?_)
    have zx_7 : x_7.toInt = 4 + i.toInt := by rw [ex_7]; exact z_add rfl rfl (by omega) (by omega)
    refine va_iald hx hb hK hP 0 0 rfl rfl (z_in (by omega) (by omega)) dX12_copyRow_23 ?_
    refine lv_topi (fun x_8 ex_8 => ?_)
    refine va_iast hx hb hK hP hD hS 0 0 rfl rfl (z_in (by omega) (by omega)) dX12_copyRow_24 (fun H locs hP hD hS => ?_)
    have hP : va_P D vwCl [(ra, .inl (k 0, 5, .inl (upd gf x_5.toNatClampNeg x_8)))] H := hP
    have hD : va_D A [(ra, .inl (k 0, 5, .inl (upd gf x_5.toNatClampNeg x_8)))] := hD
    obtain ⟨x_9, ex_9⟩ : ∃ y : Int32, y = i + 1 := ⟨_, rfl⟩
    have zx_9 : x_9.toInt = i.toInt + 1 := by rw [ex_9]; exact z_add rfl rfl (by omega) (by omega)
    refine lv_iinc (v := x_9) (lv' := [(4, .int x_9), (0, .ref ra), (1, .int 1), (2, .int 4), (3, .int 0)]) hx hb dX12_copyRow_25 hl (k := 0) rfl (by rw [ex_9]; rfl) (by decide) rfl (fun ls hl => ?_)
    refine lv_goto (tgt := 3) hx hb dX12_copyRow_28 (by decide) ?_
    exact ih_1 _ _ _ _ (by omega) ⟨x_9, (upd gf x_5.toNatClampNeg x_8), rfl, (show 0 ≤ x_9.toInt from by omega), (show x_9.toInt ≤ 1 from by omega), (fun h => updx (hz h) (ex_8.trans (hz h _))), hP.sub (ws' := [(ra, .inl (k 0, 5, .inl (upd gf x_5.toNatClampNeg x_8)))]) [0] rfl, hD.sub (ws' := [(ra, .inl (k 0, 5, .inl (upd gf x_5.toNatClampNeg x_8)))]) [0] (by decide) rfl, hS, lv_sub hl [0, 1, 2, 3, 4] rfl⟩
set_option maxHeartbeats 4000000 in
set_option maxRecDepth 100000 in
theorem c_X12_copyRow_30_4_0 (l : Launch) (D : va_G) (k : Nat → ClassId) (ra : Nat) (f : Nat → Int32) (sz : Nat) : Met l yX12_copyRow (ww yX12_copyRow cX12_copyRow 5 none) ({ frames := 0, cells := 0, slots := 0, locals := 0 }) (Pre0 D k [(ra, .inl (k 0, 30, .inl f))] sz [.ref ra, .int 6, .int 4, .int 0]) (va_Qv (fun (f2 : (Nat → Int32)) => (∀ j : Nat, f j = (0 : Int32)) → ∀ j : Nat, f2 j = (0 : Int32)) (fun (f2 : (Nat → Int32)) tZ => Bw D k (va_A [(ra, .inl (k 0, 30, .inl f))] sz) [(ra, .inl (k 0, 30, .inl f2))] tZ) (va_A [(ra, .inl (k 0, 30, .inl f))] sz)) 0 0 (va_A [(ra, .inl (k 0, 30, .inl f))] sz) := by
  refine Met.ofW (cc := cX12_copyRow) (maxL := 5) (ret := none) (by decide +kernel) rfl ?_
  intro p e s m args below meth c s₁ B hml hv
  obtain ⟨rfl, hsz, hP, hK, hD0, hN⟩ := hv
  have hx := B.exec
  have hb := B.bytes
  have hr := B.returns
  have hts : ∀ w ∈ TT, w.before _ s = true := fun w h => atoms_spec (ws := ww yX12_copyRow cX12_copyRow 5 none) B.pre w (List.mem_cons_of_mem _ h)
  have hown : s.vm.findClass RX12 = some m.cls := findClass_of_methodNamed B.named
  have hlocks := B.notSynchronized
  subst hsz
  have hD := hD0.self (sz := s.heap.size)
  generalize hAe : va_A [(ra, .inl (k 0, 30, .inl f))] s.heap.size = A at hD ⊢
  have hA : ∀ q : Nat, s.heap.size ≤ q → A q := fun q h => by rw [← hAe]; exact Or.inr h
  have hS : va_S A s.heap s.heap [] := va_S.rf
  have hl := lv_entry ([.ref ra, .int 6, .int 4, .int 0]) (n := 5) (Nat.le_of_ble_eq_true rfl)
  rw [lg_entry_eq]
  generalize (lg_sl ([.ref ra, .int 6, .int 4, .int 0]) ++ List.replicate (5 - (lg_sl ([.ref ra, .int 6, .int 4, .int 0])).length) Slot.unset).toArray = ls at hl ⊢
  have hl : lv_has ls 5 [(0, .ref ra), (1, .int 6), (2, .int 4), (3, .int 0)] := hl
  refine lv_iconst (v := 0) hx hb dX12_copyRow_0 (by decide) ?_
  refine lv_istore (lv' := [(4, .int 0), (0, .ref ra), (1, .int 6), (2, .int 4), (3, .int 0)]) hx hb dX12_copyRow_1 hl (by decide) rfl (fun ls hl => ?_)
  refine loop_r (Wg := fun H locs ls => W p l e _ s m _ below meth c H locs _ _ _ (F0 m 3 ls [])) (fun n9 H locs ls => ∃ (i : Int32) (gf : Nat → Int32), n9 = (6 - i.toInt).toNat ∧ (0 ≤ i.toInt) ∧ (i.toInt ≤ 6) ∧ ((∀ j : Nat, f j = (0 : Int32)) → ∀ j : Nat, gf j = (0 : Int32)) ∧ va_P D vwCl [(ra, .inl (k 0, 30, .inl gf))] H ∧ va_D A [(ra, .inl (k 0, 30, .inl gf))] ∧ va_S A s.heap H locs ∧ lv_has ls 5 [(4, .int i), (0, .ref ra), (1, .int 6), (2, .int 4), (3, .int 0)]) (fun n9 H locs ls hI ih_1 => ?_) _ _ _ _ ⟨0, f, rfl, (show 0 ≤ 0 from by omega), (show 0 ≤ 6 from by omega), (fun h => h), hP.sub (ws' := [(ra, .inl (k 0, 30, .inl f))]) [0] rfl, hD.sub (ws' := [(ra, .inl (k 0, 30, .inl f))]) [0] (by decide) rfl, hS, lv_sub hl [0, 1, 2, 3, 4] rfl⟩
  clear hP hD hS hl
  obtain ⟨i, gf, en_2, hi1, hi2, hz, hP, hD, hS, hl⟩ := hI
  refine lv_iload hx hb dX12_copyRow_3 (lv_at hl 0 rfl) ?_
  refine lv_iload_n hx hb dX12_copyRow_5 rfl (lv_at hl 2 rfl) ?_
  refine lv_icmp_ge (tgt := 31) hx hb dX12_copyRow_6 (by decide) (fun h_3 => ?_) (fun h_3 => ?_)
  · skip
    have zh_3 : 6 ≤ i.toInt := z_le h_3
    have hP9 := hP.sub (ws' := [(ra, .inl (k 0, 30, .inl gf))]) [0] rfl
    have hD9 := hD.sub (ws' := [(ra, .inl (k 0, 30, .inl gf))]) [0] (by decide) rfl
    exact W.vret hx hb hr (fun tZ ht hW => ⟨⟨gf, rfl, hz, by rw [ht]; exact hP9, va_K.moved hW.alike hK, hD9⟩, hS.F ht⟩) hS.2.2 dX12_copyRow_31
  · skip
    have zh_3 : i.toInt < 6 := z_nle h_3
    refine lv_aload_n hx hb dX12_copyRow_9 rfl (lv_at hl 1 rfl) ?_
    refine lv_iload_n hx hb dX12_copyRow_10 rfl (lv_at hl 2 rfl) ?_
    refine lv_iload_n hx hb dX12_copyRow_11 rfl (lv_at hl 4 rfl) ?_
    refine lv_imul hx hb dX12_copyRow_12 ?_
    refine lv_topi (fun x_4 ex_4 => ?_)
    obtain rfl : x_4 = 0 := ex_4.trans (by decide)
    refine lv_iload hx hb dX12_copyRow_13 (lv_at hl 0 rfl) ?_
    refine lv_iadd hx hb dX12_copyRow_15 ?_
    refine lv_topi (fun x_5 ex_5 => ?_)
    have zx_5 : x_5.toInt = 0 + i.toInt := by rw [ex_5]; exact z_add rfl rfl (by omega) (by omega)
    refine lv_aload_n hx hb dX12_copyRow_16 rfl (lv_at hl 1 rfl) ?_
    refine lv_iload_n hx hb dX12_copyRow_17 rfl (lv_at hl 2 rfl) ?_
    refine lv_iload_n hx hb dX12_copyRow_18 rfl (lv_at hl 3 rfl) ?_
    refine lv_imul hx hb dX12_copyRow_19 ?_
    refine lv_topi (fun x_6 ex_6 => ?_)
    obtain rfl : x_6 = 24 := ex_6.trans (by decide)
    refine lv_iload hx hb dX12_copyRow_20 (lv_at hl 0 rfl) ?_
    refine lv_iadd hx hb dX12_copyRow_22 ?_
    refine lv_topi (fun x_7 ex_7 => ?_)
    have zx_7 : x_7.toInt = 24 + i.toInt := by rw [ex_7]; exact z_add rfl rfl (by omega) (by omega)
    refine va_iald hx hb hK hP 0 0 rfl rfl (z_in (by omega) (by omega)) dX12_copyRow_23 ?_
    refine lv_topi (fun x_8 ex_8 => ?_)
    refine va_iast hx hb hK hP hD hS 0 0 rfl rfl (z_in (by omega) (by omega)) dX12_copyRow_24 (fun H locs hP hD hS => ?_)
    have hP : va_P D vwCl [(ra, .inl (k 0, 30, .inl (upd gf x_5.toNatClampNeg x_8)))] H := hP
    have hD : va_D A [(ra, .inl (k 0, 30, .inl (upd gf x_5.toNatClampNeg x_8)))] := hD
    obtain ⟨x_9, ex_9⟩ : ∃ y : Int32, y = i + 1 := ⟨_, rfl⟩
    have zx_9 : x_9.toInt = i.toInt + 1 := by rw [ex_9]; exact z_add rfl rfl (by omega) (by omega)
    refine lv_iinc (v := x_9) (lv' := [(4, .int x_9), (0, .ref ra), (1, .int 6), (2, .int 4), (3, .int 0)]) hx hb dX12_copyRow_25 hl (k := 0) rfl (by rw [ex_9]; rfl) (by decide) rfl (fun ls hl => ?_)
    refine lv_goto (tgt := 3) hx hb dX12_copyRow_28 (by decide) ?_
    exact ih_1 _ _ _ _ (by omega) ⟨x_9, (upd gf x_5.toNatClampNeg x_8), rfl, (show 0 ≤ x_9.toInt from by omega), (show x_9.toInt ≤ 6 from by omega), (fun h => updx (hz h) (ex_8.trans (hz h _))), hP.sub (ws' := [(ra, .inl (k 0, 30, .inl (upd gf x_5.toNatClampNeg x_8)))]) [0] rfl, hD.sub (ws' := [(ra, .inl (k 0, 30, .inl (upd gf x_5.toNatClampNeg x_8)))]) [0] (by decide) rfl, hS, lv_sub hl [0, 1, 2, 3, 4] rfl⟩
set_option maxHeartbeats 4000000 in
set_option maxRecDepth 100000 in
theorem c_X12_copyRow_250_4_0 (l : Launch) (D : va_G) (k : Nat → ClassId) (ra : Nat) (f : Nat → Int32) (sz : Nat) : Met l yX12_copyRow (ww yX12_copyRow cX12_copyRow 5 none) ({ frames := 0, cells := 0, slots := 0, locals := 0 }) (Pre0 D k [(ra, .inl (k 0, 250, .inl f))] sz [.ref ra, .int 50, .int 4, .int 0]) (va_Qv (fun (f2 : (Nat → Int32)) => (∀ j : Nat, f j = (0 : Int32)) → ∀ j : Nat, f2 j = (0 : Int32)) (fun (f2 : (Nat → Int32)) tZ => Bw D k (va_A [(ra, .inl (k 0, 250, .inl f))] sz) [(ra, .inl (k 0, 250, .inl f2))] tZ) (va_A [(ra, .inl (k 0, 250, .inl f))] sz)) 0 0 (va_A [(ra, .inl (k 0, 250, .inl f))] sz) := by
  refine Met.ofW (cc := cX12_copyRow) (maxL := 5) (ret := none) (by decide +kernel) rfl ?_
  intro p e s m args below meth c s₁ B hml hv
  obtain ⟨rfl, hsz, hP, hK, hD0, hN⟩ := hv
  have hx := B.exec
  have hb := B.bytes
  have hr := B.returns
  have hts : ∀ w ∈ TT, w.before _ s = true := fun w h => atoms_spec (ws := ww yX12_copyRow cX12_copyRow 5 none) B.pre w (List.mem_cons_of_mem _ h)
  have hown : s.vm.findClass RX12 = some m.cls := findClass_of_methodNamed B.named
  have hlocks := B.notSynchronized
  subst hsz
  have hD := hD0.self (sz := s.heap.size)
  generalize hAe : va_A [(ra, .inl (k 0, 250, .inl f))] s.heap.size = A at hD ⊢
  have hA : ∀ q : Nat, s.heap.size ≤ q → A q := fun q h => by rw [← hAe]; exact Or.inr h
  have hS : va_S A s.heap s.heap [] := va_S.rf
  have hl := lv_entry ([.ref ra, .int 50, .int 4, .int 0]) (n := 5) (Nat.le_of_ble_eq_true rfl)
  rw [lg_entry_eq]
  generalize (lg_sl ([.ref ra, .int 50, .int 4, .int 0]) ++ List.replicate (5 - (lg_sl ([.ref ra, .int 50, .int 4, .int 0])).length) Slot.unset).toArray = ls at hl ⊢
  have hl : lv_has ls 5 [(0, .ref ra), (1, .int 50), (2, .int 4), (3, .int 0)] := hl
  refine lv_iconst (v := 0) hx hb dX12_copyRow_0 (by decide) ?_
  refine lv_istore (lv' := [(4, .int 0), (0, .ref ra), (1, .int 50), (2, .int 4), (3, .int 0)]) hx hb dX12_copyRow_1 hl (by decide) rfl (fun ls hl => ?_)
  refine loop_r (Wg := fun H locs ls => W p l e _ s m _ below meth c H locs _ _ _ (F0 m 3 ls [])) (fun n9 H locs ls => ∃ (i : Int32) (gf : Nat → Int32), n9 = (50 - i.toInt).toNat ∧ (0 ≤ i.toInt) ∧ (i.toInt ≤ 50) ∧ ((∀ j : Nat, f j = (0 : Int32)) → ∀ j : Nat, gf j = (0 : Int32)) ∧ va_P D vwCl [(ra, .inl (k 0, 250, .inl gf))] H ∧ va_D A [(ra, .inl (k 0, 250, .inl gf))] ∧ va_S A s.heap H locs ∧ lv_has ls 5 [(4, .int i), (0, .ref ra), (1, .int 50), (2, .int 4), (3, .int 0)]) (fun n9 H locs ls hI ih_1 => ?_) _ _ _ _ ⟨0, f, rfl, (show 0 ≤ 0 from by omega), (show 0 ≤ 50 from by omega), (fun h => h), hP.sub (ws' := [(ra, .inl (k 0, 250, .inl f))]) [0] rfl, hD.sub (ws' := [(ra, .inl (k 0, 250, .inl f))]) [0] (by decide) rfl, hS, lv_sub hl [0, 1, 2, 3, 4] rfl⟩
  clear hP hD hS hl
  obtain ⟨i, gf, en_2, hi1, hi2, hz, hP, hD, hS, hl⟩ := hI
  refine lv_iload hx hb dX12_copyRow_3 (lv_at hl 0 rfl) ?_
  refine lv_iload_n hx hb dX12_copyRow_5 rfl (lv_at hl 2 rfl) ?_
  refine lv_icmp_ge (tgt := 31) hx hb dX12_copyRow_6 (by decide) (fun h_3 => ?_) (fun h_3 => ?_)
  · skip
    have zh_3 : 50 ≤ i.toInt := z_le h_3
    have hP9 := hP.sub (ws' := [(ra, .inl (k 0, 250, .inl gf))]) [0] rfl
    have hD9 := hD.sub (ws' := [(ra, .inl (k 0, 250, .inl gf))]) [0] (by decide) rfl
    exact W.vret hx hb hr (fun tZ ht hW => ⟨⟨gf, rfl, hz, by rw [ht]; exact hP9, va_K.moved hW.alike hK, hD9⟩, hS.F ht⟩) hS.2.2 dX12_copyRow_31
  · skip
    have zh_3 : i.toInt < 50 := z_nle h_3
    refine lv_aload_n hx hb dX12_copyRow_9 rfl (lv_at hl 1 rfl) ?_
    refine lv_iload_n hx hb dX12_copyRow_10 rfl (lv_at hl 2 rfl) ?_
    refine lv_iload_n hx hb dX12_copyRow_11 rfl (lv_at hl 4 rfl) ?_
    refine lv_imul hx hb dX12_copyRow_12 ?_
    refine lv_topi (fun x_4 ex_4 => ?_)
    obtain rfl : x_4 = 0 := ex_4.trans (by decide)
    refine lv_iload hx hb dX12_copyRow_13 (lv_at hl 0 rfl) ?_
    refine lv_iadd hx hb dX12_copyRow_15 ?_
    refine lv_topi (fun x_5 ex_5 => ?_)
    have zx_5 : x_5.toInt = 0 + i.toInt := by rw [ex_5]; exact z_add rfl rfl (by omega) (by omega)
    refine lv_aload_n hx hb dX12_copyRow_16 rfl (lv_at hl 1 rfl) ?_
    refine lv_iload_n hx hb dX12_copyRow_17 rfl (lv_at hl 2 rfl) ?_
    refine lv_iload_n hx hb dX12_copyRow_18 rfl (lv_at hl 3 rfl) ?_
    refine lv_imul hx hb dX12_copyRow_19 ?_
    refine lv_topi (fun x_6 ex_6 => ?_)
    obtain rfl : x_6 = 200 := ex_6.trans (by decide)
    refine lv_iload hx hb dX12_copyRow_20 (lv_at hl 0 rfl) ?_
    refine lv_iadd hx hb dX12_copyRow_22 ?_
    refine lv_topi (fun x_7 ex_7 => ?_)
    have zx_7 : x_7.toInt = 200 + i.toInt := by rw [ex_7]; exact z_add rfl rfl (by omega) (by omega)
    refine va_iald hx hb hK hP 0 0 rfl rfl (z_in (by omega) (by omega)) dX12_copyRow_23 ?_
    refine lv_topi (fun x_8 ex_8 => ?_)
    refine va_iast hx hb hK hP hD hS 0 0 rfl rfl (z_in (by omega) (by omega)) dX12_copyRow_24 (fun H locs hP hD hS => ?_)
    have hP : va_P D vwCl [(ra, .inl (k 0, 250, .inl (upd gf x_5.toNatClampNeg x_8)))] H := hP
    have hD : va_D A [(ra, .inl (k 0, 250, .inl (upd gf x_5.toNatClampNeg x_8)))] := hD
    obtain ⟨x_9, ex_9⟩ : ∃ y : Int32, y = i + 1 := ⟨_, rfl⟩
    have zx_9 : x_9.toInt = i.toInt + 1 := by rw [ex_9]; exact z_add rfl rfl (by omega) (by omega)
    refine lv_iinc (v := x_9) (lv' := [(4, .int x_9), (0, .ref ra), (1, .int 50), (2, .int 4), (3, .int 0)]) hx hb dX12_copyRow_25 hl (k := 0) rfl (by rw [ex_9]; rfl) (by decide) rfl (fun ls hl => ?_)
    refine lv_goto (tgt := 3) hx hb dX12_copyRow_28 (by decide) ?_
    exact ih_1 _ _ _ _ (by omega) ⟨x_9, (upd gf x_5.toNatClampNeg x_8), rfl, (show 0 ≤ x_9.toInt from by omega), (show x_9.toInt ≤ 50 from by omega), (fun h => updx (hz h) (ex_8.trans (hz h _))), hP.sub (ws' := [(ra, .inl (k 0, 250, .inl (upd gf x_5.toNatClampNeg x_8)))]) [0] rfl, hD.sub (ws' := [(ra, .inl (k 0, 250, .inl (upd gf x_5.toNatClampNeg x_8)))]) [0] (by decide) rfl, hS, lv_sub hl [0, 1, 2, 3, 4] rfl⟩
set_option maxHeartbeats 4000000 in
set_option maxRecDepth 100000 in
theorem c_X12_copyRow_40_4_0 (l : Launch) (D : va_G) (k : Nat → ClassId) (ra : Nat) (f : Nat → Int32) (sz : Nat) : Met l yX12_copyRow (ww yX12_copyRow cX12_copyRow 5 none) ({ frames := 0, cells := 0, slots := 0, locals := 0 }) (Pre0 D k [(ra, .inl (k 0, 40, .inl f))] sz [.ref ra, .int 8, .int 4, .int 0]) (va_Qv (fun (f2 : (Nat → Int32)) => (∀ j : Nat, f j = (0 : Int32)) → ∀ j : Nat, f2 j = (0 : Int32)) (fun (f2 : (Nat → Int32)) tZ => Bw D k (va_A [(ra, .inl (k 0, 40, .inl f))] sz) [(ra, .inl (k 0, 40, .inl f2))] tZ) (va_A [(ra, .inl (k 0, 40, .inl f))] sz)) 0 0 (va_A [(ra, .inl (k 0, 40, .inl f))] sz) := by
  refine Met.ofW (cc := cX12_copyRow) (maxL := 5) (ret := none) (by decide +kernel) rfl ?_
  intro p e s m args below meth c s₁ B hml hv
  obtain ⟨rfl, hsz, hP, hK, hD0, hN⟩ := hv
  have hx := B.exec
  have hb := B.bytes
  have hr := B.returns
  have hts : ∀ w ∈ TT, w.before _ s = true := fun w h => atoms_spec (ws := ww yX12_copyRow cX12_copyRow 5 none) B.pre w (List.mem_cons_of_mem _ h)
  have hown : s.vm.findClass RX12 = some m.cls := findClass_of_methodNamed B.named
  have hlocks := B.notSynchronized
  subst hsz
  have hD := hD0.self (sz := s.heap.size)
  generalize hAe : va_A [(ra, .inl (k 0, 40, .inl f))] s.heap.size = A at hD ⊢
  have hA : ∀ q : Nat, s.heap.size ≤ q → A q := fun q h => by rw [← hAe]; exact Or.inr h
  have hS : va_S A s.heap s.heap [] := va_S.rf
  have hl := lv_entry ([.ref ra, .int 8, .int 4, .int 0]) (n := 5) (Nat.le_of_ble_eq_true rfl)
  rw [lg_entry_eq]
  generalize (lg_sl ([.ref ra, .int 8, .int 4, .int 0]) ++ List.replicate (5 - (lg_sl ([.ref ra, .int 8, .int 4, .int 0])).length) Slot.unset).toArray = ls at hl ⊢
  have hl : lv_has ls 5 [(0, .ref ra), (1, .int 8), (2, .int 4), (3, .int 0)] := hl
  refine lv_iconst (v := 0) hx hb dX12_copyRow_0 (by decide) ?_
  refine lv_istore (lv' := [(4, .int 0), (0, .ref ra), (1, .int 8), (2, .int 4), (3, .int 0)]) hx hb dX12_copyRow_1 hl (by decide) rfl (fun ls hl => ?_)
  refine loop_r (Wg := fun H locs ls => W p l e _ s m _ below meth c H locs _ _ _ (F0 m 3 ls [])) (fun n9 H locs ls => ∃ (i : Int32) (gf : Nat → Int32), n9 = (8 - i.toInt).toNat ∧ (0 ≤ i.toInt) ∧ (i.toInt ≤ 8) ∧ ((∀ j : Nat, f j = (0 : Int32)) → ∀ j : Nat, gf j = (0 : Int32)) ∧ va_P D vwCl [(ra, .inl (k 0, 40, .inl gf))] H ∧ va_D A [(ra, .inl (k 0, 40, .inl gf))] ∧ va_S A s.heap H locs ∧ lv_has ls 5 [(4, .int i), (0, .ref ra), (1, .int 8), (2, .int 4), (3, .int 0)]) (fun n9 H locs ls hI ih_1 => ?_) _ _ _ _ ⟨0, f, rfl, (show 0 ≤ 0 from by omega), (show 0 ≤ 8 from by omega), (fun h => h), hP.sub (ws' := [(ra, .inl (k 0, 40, .inl f))]) [0] rfl, hD.sub (ws' := [(ra, .inl (k 0, 40, .inl f))]) [0] (by decide) rfl, hS, lv_sub hl [0, 1, 2, 3, 4] rfl⟩
  clear hP hD hS hl
  obtain ⟨i, gf, en_2, hi1, hi2, hz, hP, hD, hS, hl⟩ := hI
  refine lv_iload hx hb dX12_copyRow_3 (lv_at hl 0 rfl) ?_
  refine lv_iload_n hx hb dX12_copyRow_5 rfl (lv_at hl 2 rfl) ?_
  refine lv_icmp_ge (tgt := 31) hx hb dX12_copyRow_6 (by decide) (fun h_3 => ?_) (fun h_3 => ?_)
  · skip
    have zh_3 : 8 ≤ i.toInt := z_le h_3
    have hP9 := hP.sub (ws' := [(ra, .inl (k 0, 40, .inl gf))]) [0] rfl
    have hD9 := hD.sub (ws' := [(ra, .inl (k 0, 40, .inl gf))]) [0] (by decide) rfl
    exact W.vret hx hb hr (fun tZ ht hW => ⟨⟨gf, rfl, hz, by rw [ht]; exact hP9, va_K.moved hW.alike hK, hD9⟩, hS.F ht⟩) hS.2.2 dX12_copyRow_31
  · skip
    have zh_3 : i.toInt < 8 := z_nle h_3
    refine lv_aload_n hx hb dX12_copyRow_9 rfl (lv_at hl 1 rfl) ?_
    refine lv_iload_n hx hb dX12_copyRow_10 rfl (lv_at hl 2 rfl) ?_
    refine lv_iload_n hx hb dX12_copyRow_11 rfl (lv_at hl 4 rfl) ?_
    refine lv_imul hx hb dX12_copyRow_12 ?_
    refine lv_topi (fun x_4 ex_4 => ?_)
    obtain rfl : x_4 = 0 := ex_4.trans (by decide)
    refine lv_iload hx hb dX12_copyRow_13 (lv_at hl 0 rfl) ?_
    refine lv_iadd hx hb dX12_copyRow_15 ?_
    refine lv_topi (fun x_5 ex_5 => ?_)
    have zx_5 : x_5.toInt = 0 + i.toInt := by rw [ex_5]; exact z_add rfl rfl (by omega) (by omega)
    refine lv_aload_n hx hb dX12_copyRow_16 rfl (lv_at hl 1 rfl) ?_
    refine lv_iload_n hx hb dX12_copyRow_17 rfl (lv_at hl 2 rfl) ?_
    refine lv_iload_n hx hb dX12_copyRow_18 rfl (lv_at hl 3 rfl) ?_
    refine lv_imul hx hb dX12_copyRow_19 ?_
    refine lv_topi (fun x_6 ex_6 => ?_)
    obtain rfl : x_6 = 32 := ex_6.trans (by decide)
    refine lv_iload hx hb dX12_copyRow_20 (lv_at hl 0 rfl) ?_
    refine lv_iadd hx hb dX12_copyRow_22 ?_
    refine lv_topi (fun x_7 ex_7 => ?_)
    have zx_7 : x_7.toInt = 32 + i.toInt := by rw [ex_7]; exact z_add rfl rfl (by omega) (by omega)
    refine va_iald hx hb hK hP 0 0 rfl rfl (z_in (by omega) (by omega)) dX12_copyRow_23 ?_
    refine lv_topi (fun x_8 ex_8 => ?_)
    refine va_iast hx hb hK hP hD hS 0 0 rfl rfl (z_in (by omega) (by omega)) dX12_copyRow_24 (fun H locs hP hD hS => ?_)
    have hP : va_P D vwCl [(ra, .inl (k 0, 40, .inl (upd gf x_5.toNatClampNeg x_8)))] H := hP
    have hD : va_D A [(ra, .inl (k 0, 40, .inl (upd gf x_5.toNatClampNeg x_8)))] := hD
    obtain ⟨x_9, ex_9⟩ : ∃ y : Int32, y = i + 1 := ⟨_, rfl⟩
    have zx_9 : x_9.toInt = i.toInt + 1 := by rw [ex_9]; exact z_add rfl rfl (by omega) (by omega)
    refine lv_iinc (v := x_9) (lv' := [(4, .int x_9), (0, .ref ra), (1, .int 8), (2, .int 4), (3, .int 0)]) hx hb dX12_copyRow_25 hl (k := 0) rfl (by rw [ex_9]; rfl) (by decide) rfl (fun ls hl => ?_)
    refine lv_goto (tgt := 3) hx hb dX12_copyRow_28 (by decide) ?_
    exact ih_1 _ _ _ _ (by omega) ⟨x_9, (upd gf x_5.toNatClampNeg x_8), rfl, (show 0 ≤ x_9.toInt from by omega), (show x_9.toInt ≤ 8 from by omega), (fun h => updx (hz h) (ex_8.trans (hz h _))), hP.sub (ws' := [(ra, .inl (k 0, 40, .inl (upd gf x_5.toNatClampNeg x_8)))]) [0] rfl, hD.sub (ws' := [(ra, .inl (k 0, 40, .inl (upd gf x_5.toNatClampNeg x_8)))]) [0] (by decide) rfl, hS, lv_sub hl [0, 1, 2, 3, 4] rfl⟩
set_option maxHeartbeats 4000000 in
set_option maxRecDepth 100000 in
theorem c_X12_copyRow_120_4_0 (l : Launch) (D : va_G) (k : Nat → ClassId) (ra : Nat) (f : Nat → Int32) (sz : Nat) : Met l yX12_copyRow (ww yX12_copyRow cX12_copyRow 5 none) ({ frames := 0, cells := 0, slots := 0, locals := 0 }) (Pre0 D k [(ra, .inl (k 0, 120, .inl f))] sz [.ref ra, .int 24, .int 4, .int 0]) (va_Qv (fun (f2 : (Nat → Int32)) => (∀ j : Nat, f j = (0 : Int32)) → ∀ j : Nat, f2 j = (0 : Int32)) (fun (f2 : (Nat → Int32)) tZ => Bw D k (va_A [(ra, .inl (k 0, 120, .inl f))] sz) [(ra, .inl (k 0, 120, .inl f2))] tZ) (va_A [(ra, .inl (k 0, 120, .inl f))] sz)) 0 0 (va_A [(ra, .inl (k 0, 120, .inl f))] sz) := by
  refine Met.ofW (cc := cX12_copyRow) (maxL := 5) (ret := none) (by decide +kernel) rfl ?_
  intro p e s m args below meth c s₁ B hml hv
  obtain ⟨rfl, hsz, hP, hK, hD0, hN⟩ := hv
  have hx := B.exec
  have hb := B.bytes
  have hr := B.returns
  have hts : ∀ w ∈ TT, w.before _ s = true := fun w h => atoms_spec (ws := ww yX12_copyRow cX12_copyRow 5 none) B.pre w (List.mem_cons_of_mem _ h)
  have hown : s.vm.findClass RX12 = some m.cls := findClass_of_methodNamed B.named
  have hlocks := B.notSynchronized
  subst hsz
  have hD := hD0.self (sz := s.heap.size)
  generalize hAe : va_A [(ra, .inl (k 0, 120, .inl f))] s.heap.size = A at hD ⊢
  have hA : ∀ q : Nat, s.heap.size ≤ q → A q := fun q h => by rw [← hAe]; exact Or.inr h
  have hS : va_S A s.heap s.heap [] := va_S.rf
  have hl := lv_entry ([.ref ra, .int 24, .int 4, .int 0]) (n := 5) (Nat.le_of_ble_eq_true rfl)
  rw [lg_entry_eq]
  generalize (lg_sl ([.ref ra, .int 24, .int 4, .int 0]) ++ List.replicate (5 - (lg_sl ([.ref ra, .int 24, .int 4, .int 0])).length) Slot.unset).toArray = ls at hl ⊢
  have hl : lv_has ls 5 [(0, .ref ra), (1, .int 24), (2, .int 4), (3, .int 0)] := hl
  refine lv_iconst (v := 0) hx hb dX12_copyRow_0 (by decide) ?_
  refine lv_istore (lv' := [(4, .int 0), (0, .ref ra), (1, .int 24), (2, .int 4), (3, .int 0)]) hx hb dX12_copyRow_1 hl (by decide) rfl (fun ls hl => ?_)
  refine loop_r (Wg := fun H locs ls => W p l e _ s m _ below meth c H locs _ _ _ (F0 m 3 ls [])) (fun n9 H locs ls => ∃ (i : Int32) (gf : Nat → Int32), n9 = (24 - i.toInt).toNat ∧ (0 ≤ i.toInt) ∧ (i.toInt ≤ 24) ∧ ((∀ j : Nat, f j = (0 : Int32)) → ∀ j : Nat, gf j = (0 : Int32)) ∧ va_P D vwCl [(ra, .inl (k 0, 120, .inl gf))] H ∧ va_D A [(ra, .inl (k 0, 120, .inl gf))] ∧ va_S A s.heap H locs ∧ lv_has ls 5 [(4, .int i), (0, .ref ra), (1, .int 24), (2, .int 4), (3, .int 0)]) (fun n9 H locs ls hI ih_1 => ?_) _ _ _ _ ⟨0, f, rfl, (show 0 ≤ 0 from by omega), (show 0 ≤ 24 from by omega), (fun h => h), hP.sub (ws' := [(ra, .inl (k 0, 120, .inl f))]) [0] rfl, hD.sub (ws' := [(ra, .inl (k 0, 120, .inl f))]) [0] (by decide) rfl, hS, lv_sub hl [0, 1, 2, 3, 4] rfl⟩
  clear hP hD hS hl
  obtain ⟨i, gf, en_2, hi1, hi2, hz, hP, hD, hS, hl⟩ := hI
  refine lv_iload hx hb dX12_copyRow_3 (lv_at hl 0 rfl) ?_
  refine lv_iload_n hx hb dX12_copyRow_5 rfl (lv_at hl 2 rfl) ?_
  refine lv_icmp_ge (tgt := 31) hx hb dX12_copyRow_6 (by decide) (fun h_3 => ?_) (fun h_3 => ?_)
  · skip
    have zh_3 : 24 ≤ i.toInt := z_le h_3
    have hP9 := hP.sub (ws' := [(ra, .inl (k 0, 120, .inl gf))]) [0] rfl
    have hD9 := hD.sub (ws' := [(ra, .inl (k 0, 120, .inl gf))]) [0] (by decide) rfl
    exact W.vret hx hb hr (fun tZ ht hW => ⟨⟨gf, rfl, hz, by rw [ht]; exact hP9, va_K.moved hW.alike hK, hD9⟩, hS.F ht⟩) hS.2.2 dX12_copyRow_31
  · skip
    have zh_3 : i.toInt < 24 := z_nle h_3
    refine lv_aload_n hx hb dX12_copyRow_9 rfl (lv_at hl 1 rfl) ?_
    refine lv_iload_n hx hb dX12_copyRow_10 rfl (lv_at hl 2 rfl) ?_
    refine lv_iload_n hx hb dX12_copyRow_11 rfl (lv_at hl 4 rfl) ?_
    refine lv_imul hx hb dX12_copyRow_12 ?_
    refine lv_topi (fun x_4 ex_4 => ?_)
    obtain rfl : x_4 = 0 := ex_4.trans (by decide)
    refine lv_iload hx hb dX12_copyRow_13 (lv_at hl 0 rfl) ?_
    refine lv_iadd hx hb dX12_copyRow_15 ?_
    refine lv_topi (fun x_5 ex_5 => ?_)
    have zx_5 : x_5.toInt = 0 + i.toInt := by rw [ex_5]; exact z_add rfl rfl (by omega) (by omega)
    refine lv_aload_n hx hb dX12_copyRow_16 rfl (lv_at hl 1 rfl) ?_
    refine lv_iload_n hx hb dX12_copyRow_17 rfl (lv_at hl 2 rfl) ?_
    refine lv_iload_n hx hb dX12_copyRow_18 rfl (lv_at hl 3 rfl) ?_
    refine lv_imul hx hb dX12_copyRow_19 ?_
    refine lv_topi (fun x_6 ex_6 => ?_)
    obtain rfl : x_6 = 96 := ex_6.trans (by decide)
    refine lv_iload hx hb dX12_copyRow_20 (lv_at hl 0 rfl) ?_
    refine lv_iadd hx hb dX12_copyRow_22 ?_
    refine lv_topi (fun x_7 ex_7 => ?_)
    have zx_7 : x_7.toInt = 96 + i.toInt := by rw [ex_7]; exact z_add rfl rfl (by omega) (by omega)
    refine va_iald hx hb hK hP 0 0 rfl rfl (z_in (by omega) (by omega)) dX12_copyRow_23 ?_
    refine lv_topi (fun x_8 ex_8 => ?_)
    refine va_iast hx hb hK hP hD hS 0 0 rfl rfl (z_in (by omega) (by omega)) dX12_copyRow_24 (fun H locs hP hD hS => ?_)
    have hP : va_P D vwCl [(ra, .inl (k 0, 120, .inl (upd gf x_5.toNatClampNeg x_8)))] H := hP
    have hD : va_D A [(ra, .inl (k 0, 120, .inl (upd gf x_5.toNatClampNeg x_8)))] := hD
    obtain ⟨x_9, ex_9⟩ : ∃ y : Int32, y = i + 1 := ⟨_, rfl⟩
    have zx_9 : x_9.toInt = i.toInt + 1 := by rw [ex_9]; exact z_add rfl rfl (by omega) (by omega)
    refine lv_iinc (v := x_9) (lv' := [(4, .int x_9), (0, .ref ra), (1, .int 24), (2, .int 4), (3, .int 0)]) hx hb dX12_copyRow_25 hl (k := 0) rfl (by rw [ex_9]; rfl) (by decide) rfl (fun ls hl => ?_)
    refine lv_goto (tgt := 3) hx hb dX12_copyRow_28 (by decide) ?_
    exact ih_1 _ _ _ _ (by omega) ⟨x_9, (upd gf x_5.toNatClampNeg x_8), rfl, (show 0 ≤ x_9.toInt from by omega), (show x_9.toInt ≤ 24 from by omega), (fun h => updx (hz h) (ex_8.trans (hz h _))), hP.sub (ws' := [(ra, .inl (k 0, 120, .inl (upd gf x_5.toNatClampNeg x_8)))]) [0] rfl, hD.sub (ws' := [(ra, .inl (k 0, 120, .inl (upd gf x_5.toNatClampNeg x_8)))]) [0] (by decide) rfl, hS, lv_sub hl [0, 1, 2, 3, 4] rfl⟩
set_option maxHeartbeats 4000000 in
set_option maxRecDepth 100000 in
theorem c_X12_copyRow_20_4_0 (l : Launch) (D : va_G) (k : Nat → ClassId) (ra : Nat) (f : Nat → Int32) (sz : Nat) : Met l yX12_copyRow (ww yX12_copyRow cX12_copyRow 5 none) ({ frames := 0, cells := 0, slots := 0, locals := 0 }) (Pre0 D k [(ra, .inl (k 0, 20, .inl f))] sz [.ref ra, .int 4, .int 4, .int 0]) (va_Qv (fun (f2 : (Nat → Int32)) => (∀ j : Nat, f j = (0 : Int32)) → ∀ j : Nat, f2 j = (0 : Int32)) (fun (f2 : (Nat → Int32)) tZ => Bw D k (va_A [(ra, .inl (k 0, 20, .inl f))] sz) [(ra, .inl (k 0, 20, .inl f2))] tZ) (va_A [(ra, .inl (k 0, 20, .inl f))] sz)) 0 0 (va_A [(ra, .inl (k 0, 20, .inl f))] sz) := by
  refine Met.ofW (cc := cX12_copyRow) (maxL := 5) (ret := none) (by decide +kernel) rfl ?_
  intro p e s m args below meth c s₁ B hml hv
  obtain ⟨rfl, hsz, hP, hK, hD0, hN⟩ := hv
  have hx := B.exec
  have hb := B.bytes
  have hr := B.returns
  have hts : ∀ w ∈ TT, w.before _ s = true := fun w h => atoms_spec (ws := ww yX12_copyRow cX12_copyRow 5 none) B.pre w (List.mem_cons_of_mem _ h)
  have hown : s.vm.findClass RX12 = some m.cls := findClass_of_methodNamed B.named
  have hlocks := B.notSynchronized
  subst hsz
  have hD := hD0.self (sz := s.heap.size)
  generalize hAe : va_A [(ra, .inl (k 0, 20, .inl f))] s.heap.size = A at hD ⊢
  have hA : ∀ q : Nat, s.heap.size ≤ q → A q := fun q h => by rw [← hAe]; exact Or.inr h
  have hS : va_S A s.heap s.heap [] := va_S.rf
  have hl := lv_entry ([.ref ra, .int 4, .int 4, .int 0]) (n := 5) (Nat.le_of_ble_eq_true rfl)
  rw [lg_entry_eq]
  generalize (lg_sl ([.ref ra, .int 4, .int 4, .int 0]) ++ List.replicate (5 - (lg_sl ([.ref ra, .int 4, .int 4, .int 0])).length) Slot.unset).toArray = ls at hl ⊢
  have hl : lv_has ls 5 [(0, .ref ra), (1, .int 4), (2, .int 4), (3, .int 0)] := hl
  refine lv_iconst (v := 0) hx hb dX12_copyRow_0 (by decide) ?_
  refine lv_istore (lv' := [(4, .int 0), (0, .ref ra), (1, .int 4), (2, .int 4), (3, .int 0)]) hx hb dX12_copyRow_1 hl (by decide) rfl (fun ls hl => ?_)
  refine loop_r (Wg := fun H locs ls => W p l e _ s m _ below meth c H locs _ _ _ (F0 m 3 ls [])) (fun n9 H locs ls => ∃ (i : Int32) (gf : Nat → Int32), n9 = (4 - i.toInt).toNat ∧ (0 ≤ i.toInt) ∧ (i.toInt ≤ 4) ∧ ((∀ j : Nat, f j = (0 : Int32)) → ∀ j : Nat, gf j = (0 : Int32)) ∧ va_P D vwCl [(ra, .inl (k 0, 20, .inl gf))] H ∧ va_D A [(ra, .inl (k 0, 20, .inl gf))] ∧ va_S A s.heap H locs ∧ lv_has ls 5 [(4, .int i), (0, .ref ra), (1, .int 4), (2, .int 4), (3, .int 0)]) (fun n9 H locs ls hI ih_1 => ?_) _ _ _ _ ⟨0, f, rfl, (show 0 ≤ 0 from by omega), (show 0 ≤ 4 from by omega), (fun h => h), hP.sub (ws' := [(ra, .inl (k 0, 20, .inl f))]) [0] rfl, hD.sub (ws' := [(ra, .inl (k 0, 20, .inl f))]) [0] (by decide) rfl, hS, lv_sub hl [0, 1, 2, 3, 4] rfl⟩
  clear hP hD hS hl
  obtain ⟨i, gf, en_2, hi1, hi2, hz, hP, hD, hS, hl⟩ := hI
  refine lv_iload hx hb dX12_copyRow_3 (lv_at hl 0 rfl) ?_
  refine lv_iload_n hx hb dX12_copyRow_5 rfl (lv_at hl 2 rfl) ?_
  refine lv_icmp_ge (tgt := 31) hx hb dX12_copyRow_6 (by decide) (fun h_3 => ?_) (fun h_3 => ?_)
  · skip
    have zh_3 : 4 ≤ i.toInt := z_le h_3
    have hP9 := hP.sub (ws' := [(ra, .inl (k 0, 20, .inl gf))]) [0] rfl
    have hD9 := hD.sub (ws' := [(ra, .inl (k 0, 20, .inl gf))]) [0] (by decide) rfl
    exact W.vret hx hb hr (fun tZ ht hW => ⟨⟨gf, rfl, hz, by rw [ht]; exact hP9, va_K.moved hW.alike hK, hD9⟩, hS.F ht⟩) hS.2.2 dX12_copyRow_31
  · skip
    have zh_3 : i.toInt < 4 := z_nle h_3
    refine lv_aload_n hx hb dX12_copyRow_9 rfl (lv_at hl 1 rfl) ?_
    refine lv_iload_n hx hb dX12_copyRow_10 rfl (lv_at hl 2 rfl) ?_
    refine lv_iload_n hx hb dX12_copyRow_11 rfl (lv_at hl 4 rfl) ?_
    refine lv_imul hx hb dX12_copyRow_12 ?_
    refine lv_topi (fun x_4 ex_4 => ?_)
    obtain rfl : x_4 = 0 := ex_4.trans (by decide)
    refine lv_iload hx hb dX12_copyRow_13 (lv_at hl 0 rfl) ?_
    refine lv_iadd hx hb dX12_copyRow_15 ?_
    refine lv_topi (fun x_5 ex_5 => ?_)
    have zx_5 : x_5.toInt = 0 + i.toInt := by rw [ex_5]; exact z_add rfl rfl (by omega) (by omega)
    refine lv_aload_n hx hb dX12_copyRow_16 rfl (lv_at hl 1 rfl) ?_
    refine lv_iload_n hx hb dX12_copyRow_17 rfl (lv_at hl 2 rfl) ?_
    refine lv_iload_n hx hb dX12_copyRow_18 rfl (lv_at hl 3 rfl) ?_
    refine lv_imul hx hb dX12_copyRow_19 ?_
    refine lv_topi (fun x_6 ex_6 => ?_)
    obtain rfl : x_6 = 16 := ex_6.trans (by decide)
    refine lv_iload hx hb dX12_copyRow_20 (lv_at hl 0 rfl) ?_
    refine lv_iadd hx hb dX12_copyRow_22 ?_
    refine lv_topi (fun x_7 ex_7 => ?_)
    have zx_7 : x_7.toInt = 16 + i.toInt := by rw [ex_7]; exact z_add rfl rfl (by omega) (by omega)
    refine va_iald hx hb hK hP 0 0 rfl rfl (z_in (by omega) (by omega)) dX12_copyRow_23 ?_
    refine lv_topi (fun x_8 ex_8 => ?_)
    refine va_iast hx hb hK hP hD hS 0 0 rfl rfl (z_in (by omega) (by omega)) dX12_copyRow_24 (fun H locs hP hD hS => ?_)
    have hP : va_P D vwCl [(ra, .inl (k 0, 20, .inl (upd gf x_5.toNatClampNeg x_8)))] H := hP
    have hD : va_D A [(ra, .inl (k 0, 20, .inl (upd gf x_5.toNatClampNeg x_8)))] := hD
    obtain ⟨x_9, ex_9⟩ : ∃ y : Int32, y = i + 1 := ⟨_, rfl⟩
    have zx_9 : x_9.toInt = i.toInt + 1 := by rw [ex_9]; exact z_add rfl rfl (by omega) (by omega)
    refine lv_iinc (v := x_9) (lv' := [(4, .int x_9), (0, .ref ra), (1, .int 4), (2, .int 4), (3, .int 0)]) hx hb dX12_copyRow_25 hl (k := 0) rfl (by rw [ex_9]; rfl) (by decide) rfl (fun ls hl => ?_)
    refine lv_goto (tgt := 3) hx hb dX12_copyRow_28 (by decide) ?_
    exact ih_1 _ _ _ _ (by omega) ⟨x_9, (upd gf x_5.toNatClampNeg x_8), rfl, (show 0 ≤ x_9.toInt from by omega), (show x_9.toInt ≤ 4 from by omega), (fun h => updx (hz h) (ex_8.trans (hz h _))), hP.sub (ws' := [(ra, .inl (k 0, 20, .inl (upd gf x_5.toNatClampNeg x_8)))]) [0] rfl, hD.sub (ws' := [(ra, .inl (k 0, 20, .inl (upd gf x_5.toNatClampNeg x_8)))]) [0] (by decide) rfl, hS, lv_sub hl [0, 1, 2, 3, 4] rfl⟩
set_option maxHeartbeats 4000000 in
set_option maxRecDepth 100000 in
theorem c_X12_copyRow_600_4_0 (l : Launch) (D : va_G) (k : Nat → ClassId) (ra : Nat) (f : Nat → Int32) (sz : Nat) : Met l yX12_copyRow (ww yX12_copyRow cX12_copyRow 5 none) ({ frames := 0, cells := 0, slots := 0, locals := 0 }) (Pre0 D k [(ra, .inl (k 0, 600, .inl f))] sz [.ref ra, .int 120, .int 4, .int 0]) (va_Qv (fun (f2 : (Nat → Int32)) => (∀ j : Nat, f j = (0 : Int32)) → ∀ j : Nat, f2 j = (0 : Int32)) (fun (f2 : (Nat → Int32)) tZ => Bw D k (va_A [(ra, .inl (k 0, 600, .inl f))] sz) [(ra, .inl (k 0, 600, .inl f2))] tZ) (va_A [(ra, .inl (k 0, 600, .inl f))] sz)) 0 0 (va_A [(ra, .inl (k 0, 600, .inl f))] sz) := by
  refine Met.ofW (cc := cX12_copyRow) (maxL := 5) (ret := none) (by decide +kernel) rfl ?_
  intro p e s m args below meth c s₁ B hml hv
  obtain ⟨rfl, hsz, hP, hK, hD0, hN⟩ := hv
  have hx := B.exec
  have hb := B.bytes
  have hr := B.returns
  have hts : ∀ w ∈ TT, w.before _ s = true := fun w h => atoms_spec (ws := ww yX12_copyRow cX12_copyRow 5 none) B.pre w (List.mem_cons_of_mem _ h)
  have hown : s.vm.findClass RX12 = some m.cls := findClass_of_methodNamed B.named
  have hlocks := B.notSynchronized
  subst hsz
  have hD := hD0.self (sz := s.heap.size)
  generalize hAe : va_A [(ra, .inl (k 0, 600, .inl f))] s.heap.size = A at hD ⊢
  have hA : ∀ q : Nat, s.heap.size ≤ q → A q := fun q h => by rw [← hAe]; exact Or.inr h
  have hS : va_S A s.heap s.heap [] := va_S.rf
  have hl := lv_entry ([.ref ra, .int 120, .int 4, .int 0]) (n := 5) (Nat.le_of_ble_eq_true rfl)
  rw [lg_entry_eq]
  generalize (lg_sl ([.ref ra, .int 120, .int 4, .int 0]) ++ List.replicate (5 - (lg_sl ([.ref ra, .int 120, .int 4, .int 0])).length) Slot.unset).toArray = ls at hl ⊢
  have hl : lv_has ls 5 [(0, .ref ra), (1, .int 120), (2, .int 4), (3, .int 0)] := hl
  refine lv_iconst (v := 0) hx hb dX12_copyRow_0 (by decide) ?_
  refine lv_istore (lv' := [(4, .int 0), (0, .ref ra), (1, .int 120), (2, .int 4), (3, .int 0)]) hx hb dX12_copyRow_1 hl (by decide) rfl (fun ls hl => ?_)
  refine loop_r (Wg := fun H locs ls => W p l e _ s m _ below meth c H locs _ _ _ (F0 m 3 ls [])) (fun n9 H locs ls => ∃ (i : Int32) (gf : Nat → Int32), n9 = (120 - i.toInt).toNat ∧ (0 ≤ i.toInt) ∧ (i.toInt ≤ 120) ∧ ((∀ j : Nat, f j = (0 : Int32)) → ∀ j : Nat, gf j = (0 : Int32)) ∧ va_P D vwCl [(ra, .inl (k 0, 600, .inl gf))] H ∧ va_D A [(ra, .inl (k 0, 600, .inl gf))] ∧ va_S A s.heap H locs ∧ lv_has ls 5 [(4, .int i), (0, .ref ra), (1, .int 120), (2, .int 4), (3, .int 0)]) (fun n9 H locs ls hI ih_1 => ?_) _ _ _ _ ⟨0, f, rfl, (show 0 ≤ 0 from by omega), (show 0 ≤ 120 from by omega), (fun h => h), hP.sub (ws' := [(ra, .inl (k 0, 600, .inl f))]) [0] rfl, hD.sub (ws' := [(ra, .inl (k 0, 600, .inl f))]) [0] (by decide) rfl, hS, lv_sub hl [0, 1, 2, 3, 4] rfl⟩
  clear hP hD hS hl
  obtain ⟨i, gf, en_2, hi1, hi2, hz, hP, hD, hS, hl⟩ := hI
  refine lv_iload hx hb dX12_copyRow_3 (lv_at hl 0 rfl) ?_
  refine lv_iload_n hx hb dX12_copyRow_5 rfl (lv_at hl 2 rfl) ?_
  refine lv_icmp_ge (tgt := 31) hx hb dX12_copyRow_6 (by decide) (fun h_3 => ?_) (fun h_3 => ?_)
  · skip
    have zh_3 : 120 ≤ i.toInt := z_le h_3
    have hP9 := hP.sub (ws' := [(ra, .inl (k 0, 600, .inl gf))]) [0] rfl
    have hD9 := hD.sub (ws' := [(ra, .inl (k 0, 600, .inl gf))]) [0] (by decide) rfl
    exact W.vret hx hb hr (fun tZ ht hW => ⟨⟨gf, rfl, hz, by rw [ht]; exact hP9, va_K.moved hW.alike hK, hD9⟩, hS.F ht⟩) hS.2.2 dX12_copyRow_31
  · skip
    have zh_3 : i.toInt < 120 := z_nle h_3
    refine lv_aload_n hx hb dX12_copyRow_9 rfl (lv_at hl 1 rfl) ?_
    refine lv_iload_n hx hb dX12_copyRow_10 rfl (lv_at hl 2 rfl) ?_
    refine lv_iload_n hx hb dX12_copyRow_11 rfl (lv_at hl 4 rfl) ?_
    refine lv_imul hx hb dX12_copyRow_12 ?_
    refine lv_topi (fun x_4 ex_4 => ?_)
    obtain rfl : x_4 = 0 := ex_4.trans (by decide)
    refine lv_iload hx hb dX12_copyRow_13 (lv_at hl 0 rfl) ?_
    refine lv_iadd hx hb dX12_copyRow_15 ?_
    refine lv_topi (fun x_5 ex_5 => ?_)
    have zx_5 : x_5.toInt = 0 + i.toInt := by rw [ex_5]; exact z_add rfl rfl (by omega) (by omega)
    refine lv_aload_n hx hb dX12_copyRow_16 rfl (lv_at hl 1 rfl) ?_
    refine lv_iload_n hx hb dX12_copyRow_17 rfl (lv_at hl 2 rfl) ?_
    refine lv_iload_n hx hb dX12_copyRow_18 rfl (lv_at hl 3 rfl) ?_
    refine lv_imul hx hb dX12_copyRow_19 ?_
    refine lv_topi (fun x_6 ex_6 => ?_)
    obtain rfl : x_6 = 480 := ex_6.trans (by decide)
    refine lv_iload hx hb dX12_copyRow_20 (lv_at hl 0 rfl) ?_
    refine lv_iadd hx hb dX12_copyRow_22 ?_
    refine lv_topi (fun x_7 ex_7 => ?_)
    have zx_7 : x_7.toInt = 480 + i.toInt := by rw [ex_7]; exact z_add rfl rfl (by omega) (by omega)
    refine va_iald hx hb hK hP 0 0 rfl rfl (z_in (by omega) (by omega)) dX12_copyRow_23 ?_
    refine lv_topi (fun x_8 ex_8 => ?_)
    refine va_iast hx hb hK hP hD hS 0 0 rfl rfl (z_in (by omega) (by omega)) dX12_copyRow_24 (fun H locs hP hD hS => ?_)
    have hP : va_P D vwCl [(ra, .inl (k 0, 600, .inl (upd gf x_5.toNatClampNeg x_8)))] H := hP
    have hD : va_D A [(ra, .inl (k 0, 600, .inl (upd gf x_5.toNatClampNeg x_8)))] := hD
    obtain ⟨x_9, ex_9⟩ : ∃ y : Int32, y = i + 1 := ⟨_, rfl⟩
    have zx_9 : x_9.toInt = i.toInt + 1 := by rw [ex_9]; exact z_add rfl rfl (by omega) (by omega)
    refine lv_iinc (v := x_9) (lv' := [(4, .int x_9), (0, .ref ra), (1, .int 120), (2, .int 4), (3, .int 0)]) hx hb dX12_copyRow_25 hl (k := 0) rfl (by rw [ex_9]; rfl) (by decide) rfl (fun ls hl => ?_)
    refine lv_goto (tgt := 3) hx hb dX12_copyRow_28 (by decide) ?_
    exact ih_1 _ _ _ _ (by omega) ⟨x_9, (upd gf x_5.toNatClampNeg x_8), rfl, (show 0 ≤ x_9.toInt from by omega), (show x_9.toInt ≤ 120 from by omega), (fun h => updx (hz h) (ex_8.trans (hz h _))), hP.sub (ws' := [(ra, .inl (k 0, 600, .inl (upd gf x_5.toNatClampNeg x_8)))]) [0] rfl, hD.sub (ws' := [(ra, .inl (k 0, 600, .inl (upd gf x_5.toNatClampNeg x_8)))]) [0] (by decide) rfl, hS, lv_sub hl [0, 1, 2, 3, 4] rfl⟩
set_option maxHeartbeats 4000000 in
set_option maxRecDepth 100000 in
theorem c_X12_copyTown_4_0 (l : Launch) (D : va_G) (k : Nat → ClassId) (mo : Nat) (m1 : Nat) (m2 : Nat) (m3 : Nat) (m4 : Nat) (m5 : Nat) (m16 : Nat) (m17 : Nat) (m18 : Nat) (m19 : Nat) (m20 : Nat) (m21 : Nat) (m22 : Nat) (m23 : Nat) (m25 : Nat) (m26 : Nat) (m27 : Nat) (m28 : Nat) (m29 : Nat) (m31 : Nat) (m32 : Nat) (m33 : Nat) (m37 : Nat) (m38 : Nat) (m39 : Nat) (m40 : Nat) (f16 : Nat → Int32) (f17 : Nat → Int32) (f18 : Nat → Int32) (f19 : Nat → Int32) (f20 : Nat → Int32) (f21 : Nat → Int32) (f22 : Nat → Int32) (sz : Nat) : Met l yX12_copyTown (ww yX12_copyTown cX12_copyTown 3 none) ({ frames := 1, cells := 0, slots := 0, locals := 24 }) (Pre0 D k [(mo, .inr (12, [.int 0, .ref m1, .ref m2, .ref m3, .ref m4, .ref m5, .int 0, .int 0, .int 0, .int 0, .int 0, .long 0, .int 0, .int (-1), .int 0, .int (-1), .ref m16, .ref m17, .ref m18, .ref m19, .ref m20, .ref m21, .ref m22, .ref m23, .int 0, .ref m25, .ref m26, .ref m27, .ref m28, .ref m29, .int 0, .ref m31, .ref m32, .ref m33, .int 0, .int 0, .int 0, .ref m37, .ref m38, .ref m39, .ref m40, .long 0])), (m16, .inl (k 0, 5, .inl f16)), (m17, .inl (k 0, 30, .inl f17)), (m18, .inl (k 0, 250, .inl f18)), (m19, .inl (k 0, 40, .inl f19)), (m20, .inl (k 0, 120, .inl f20)), (m21, .inl (k 0, 20, .inl f21)), (m22, .inl (k 0, 600, .inl f22))] sz [.ref mo, .int 4, .int 0]) (va_Qv (fun (u : (Nat → Int32) × (Nat → Int32) × (Nat → Int32) × (Nat → Int32) × (Nat → Int32) × (Nat → Int32) × (Nat → Int32)) => match u with | (o16, o17, o18, o19, o20, o21, o22) => (∀ j : Nat, f16 j = (0 : Int32)) → ∀ j : Nat, o16 j = (0 : Int32)) (fun (u : (Nat → Int32) × (Nat → Int32) × (Nat → Int32) × (Nat → Int32) × (Nat → Int32) × (Nat → Int32) × (Nat → Int32)) tZ => match u with | (o16, o17, o18, o19, o20, o21, o22) => Bw D k (va_A [(mo, .inr (12, [.int 0, .ref m1, .ref m2, .ref m3, .ref m4, .ref m5, .int 0, .int 0, .int 0, .int 0, .int 0, .long 0, .int 0, .int (-1), .int 0, .int (-1), .ref m16, .ref m17, .ref m18, .ref m19, .ref m20, .ref m21, .ref m22, .ref m23, .int 0, .ref m25, .ref m26, .ref m27, .ref m28, .ref m29, .int 0, .ref m31, .ref m32, .ref m33, .int 0, .int 0, .int 0, .ref m37, .ref m38, .ref m39, .ref m40, .long 0])), (m16, .inl (k 0, 5, .inl f16)), (m17, .inl (k 0, 30, .inl f17)), (m18, .inl (k 0, 250, .inl f18)), (m19, .inl (k 0, 40, .inl f19)), (m20, .inl (k 0, 120, .inl f20)), (m21, .inl (k 0, 20, .inl f21)), (m22, .inl (k 0, 600, .inl f22))] sz) [(mo, .inr (12, [.int 0, .ref m1, .ref m2, .ref m3, .ref m4, .ref m5, .int 0, .int 0, .int 0, .int 0, .int 0, .long 0, .int 0, .int (-1), .int 0, .int (-1), .ref m16, .ref m17, .ref m18, .ref m19, .ref m20, .ref m21, .ref m22, .ref m23, .int 0, .ref m25, .ref m26, .ref m27, .ref m28, .ref m29, .int 0, .ref m31, .ref m32, .ref m33, .int 0, .int 0, .int 0, .ref m37, .ref m38, .ref m39, .ref m40, .long 0])), (m16, .inl (k 0, 5, .inl o16)), (m17, .inl (k 0, 30, .inl o17)), (m18, .inl (k 0, 250, .inl o18)), (m19, .inl (k 0, 40, .inl o19)), (m20, .inl (k 0, 120, .inl o20)), (m21, .inl (k 0, 20, .inl o21)), (m22, .inl (k 0, 600, .inl o22))] tZ) (va_A [(mo, .inr (12, [.int 0, .ref m1, .ref m2, .ref m3, .ref m4, .ref m5, .int 0, .int 0, .int 0, .int 0, .int 0, .long 0, .int 0, .int (-1), .int 0, .int (-1), .ref m16, .ref m17, .ref m18, .ref m19, .ref m20, .ref m21, .ref m22, .ref m23, .int 0, .ref m25, .ref m26, .ref m27, .ref m28, .ref m29, .int 0, .ref m31, .ref m32, .ref m33, .int 0, .int 0, .int 0, .ref m37, .ref m38, .ref m39, .ref m40, .long 0])), (m16, .inl (k 0, 5, .inl f16)), (m17, .inl (k 0, 30, .inl f17)), (m18, .inl (k 0, 250, .inl f18)), (m19, .inl (k 0, 40, .inl f19)), (m20, .inl (k 0, 120, .inl f20)), (m21, .inl (k 0, 20, .inl f21)), (m22, .inl (k 0, 600, .inl f22))] sz)) 0 0 (va_A [(mo, .inr (12, [.int 0, .ref m1, .ref m2, .ref m3, .ref m4, .ref m5, .int 0, .int 0, .int 0, .int 0, .int 0, .long 0, .int 0, .int (-1), .int 0, .int (-1), .ref m16, .ref m17, .ref m18, .ref m19, .ref m20, .ref m21, .ref m22, .ref m23, .int 0, .ref m25, .ref m26, .ref m27, .ref m28, .ref m29, .int 0, .ref m31, .ref m32, .ref m33, .int 0, .int 0, .int 0, .ref m37, .ref m38, .ref m39, .ref m40, .long 0])), (m16, .inl (k 0, 5, .inl f16)), (m17, .inl (k 0, 30, .inl f17)), (m18, .inl (k 0, 250, .inl f18)), (m19, .inl (k 0, 40, .inl f19)), (m20, .inl (k 0, 120, .inl f20)), (m21, .inl (k 0, 20, .inl f21)), (m22, .inl (k 0, 600, .inl f22))] sz) := by
  refine Met.ofW (cc := cX12_copyTown) (maxL := 3) (ret := none) (by decide +kernel) rfl ?_
  intro p e s m args below meth c s₁ B hml hv
  obtain ⟨rfl, hsz, hP, hK, hD0, hN⟩ := hv
  have hx := B.exec
  have hb := B.bytes
  have hr := B.returns
  have hts : ∀ w ∈ TT, w.before _ s = true := fun w h => atoms_spec (ws := ww yX12_copyTown cX12_copyTown 3 none) B.pre w (List.mem_cons_of_mem _ h)
  have hown : s.vm.findClass RX12 = some m.cls := findClass_of_methodNamed B.named
  have hlocks := B.notSynchronized
  subst hsz
  have hD := hD0.self (sz := s.heap.size)
  generalize hAe : va_A [(mo, .inr (12, [.int 0, .ref m1, .ref m2, .ref m3, .ref m4, .ref m5, .int 0, .int 0, .int 0, .int 0, .int 0, .long 0, .int 0, .int (-1), .int 0, .int (-1), .ref m16, .ref m17, .ref m18, .ref m19, .ref m20, .ref m21, .ref m22, .ref m23, .int 0, .ref m25, .ref m26, .ref m27, .ref m28, .ref m29, .int 0, .ref m31, .ref m32, .ref m33, .int 0, .int 0, .int 0, .ref m37, .ref m38, .ref m39, .ref m40, .long 0])), (m16, .inl (k 0, 5, .inl f16)), (m17, .inl (k 0, 30, .inl f17)), (m18, .inl (k 0, 250, .inl f18)), (m19, .inl (k 0, 40, .inl f19)), (m20, .inl (k 0, 120, .inl f20)), (m21, .inl (k 0, 20, .inl f21)), (m22, .inl (k 0, 600, .inl f22))] s.heap.size = A at hD ⊢
  have hA : ∀ q : Nat, s.heap.size ≤ q → A q := fun q h => by rw [← hAe]; exact Or.inr h
  have hS : va_S A s.heap s.heap [] := va_S.rf
  have hl := lv_entry ([.ref mo, .int 4, .int 0]) (n := 3) (Nat.le_of_ble_eq_true rfl)
  rw [lg_entry_eq]
  generalize (lg_sl ([.ref mo, .int 4, .int 0]) ++ List.replicate (3 - (lg_sl ([.ref mo, .int 4, .int 0])).length) Slot.unset).toArray = ls at hl ⊢
  have hl : lv_has ls 3 [(0, .ref mo), (1, .int 4), (2, .int 0)] := hl
  refine lv_aload_n hx hb dX12_copyTown_0 rfl (lv_at hl 0 rfl) ?_
  refine va_get (D := D) (ci := 12) (v := .ref m16) (C := RX12) (T := TX12) (N := 42) hx hb hts iT_X12 hown hK hP 0 rfl rfl 16 (by decide) (hts _ tw_6_69) (fun _ h9 => h9) rfl dX12_copyTown_1 ?_
  refine lv_iconst (v := 1) hx hb dX12_copyTown_4 (by decide) ?_
  refine lv_iload_n hx hb dX12_copyTown_5 rfl (lv_at hl 1 rfl) ?_
  refine lv_iload_n hx hb dX12_copyTown_6 rfl (lv_at hl 2 rfl) ?_
  have hPc := hP.sub (ws' := [(m16, .inl (k 0, 5, .inl f16))]) [1] rfl
  have hDc := hD.sub (ws' := [(m16, .inl (k 0, 5, .inl f16))]) [1] (by decide) rfl
  have hFc := va_free (wc := [(m16, .inl (k 0, 5, .inl f16))]) hD hS hA [1] rfl
  refine va_callv (va_runS (As := [.ref m16, .int 1, .int 4, .int 0]) (rest := []) ⟨hx, hb, hml, hown, hts⟩ (c_X12_copyRow_5_4_0 l D k m16 f16 s.heap.size) (va_cwS 4 hts (gS tw_7_91 tw_7_92 tw_1_13 tw_7_93) rfl rfl rfl hdS_X12_copyRow ⟨Nat.le_of_ble_eq_true rfl, Nat.le_of_ble_eq_true rfl⟩) (cz_S hK hPc hDc hN [.ref m16, .int 1, .int 4, .int 0]) rfl rfl hl.1 rfl (lv_room (Nat.le_of_ble_eq_true rfl)) dX12_copyTown_7 ⟨Nat.le_of_ble_eq_true rfl, Nat.le_of_ble_eq_true rfl⟩) hS (fun q _ h => hFc q h) hFc (fun uZ tZ H1 locs ht hvm hw hB hz1 hk1 hS => ?_)
  obtain ⟨o_2, rfl⟩ : ∃ z, z = uZ := ⟨_, rfl⟩
  obtain ⟨hP1, hK1, hD1⟩ := hB
  rw [ht] at hP1
  obtain ⟨hP, hD⟩ := va_join (wr := [(mo, .inr (12, [.int 0, .ref m1, .ref m2, .ref m3, .ref m4, .ref m5, .int 0, .int 0, .int 0, .int 0, .int 0, .long 0, .int 0, .int (-1), .int 0, .int (-1), .ref m16, .ref m17, .ref m18, .ref m19, .ref m20, .ref m21, .ref m22, .ref m23, .int 0, .ref m25, .ref m26, .ref m27, .ref m28, .ref m29, .int 0, .ref m31, .ref m32, .ref m33, .int 0, .int 0, .int 0, .ref m37, .ref m38, .ref m39, .ref m40, .long 0])), (m17, .inl (k 0, 30, .inl f17)), (m18, .inl (k 0, 250, .inl f18)), (m19, .inl (k 0, 40, .inl f19)), (m20, .inl (k 0, 120, .inl f20)), (m21, .inl (k 0, 20, .inl f21)), (m22, .inl (k 0, 600, .inl f22))]) (w1 := [(m16, .inl (k 0, 5, .inl o_2))]) hP hD [1] [0, 2, 3, 4, 5, 6, 7] rfl rfl (by decide) (by decide) hk1 hFc hP1 hD1
  clear hK1 hP1 hD1 hPc hDc hFc
  clear hk1 hz1 ht hvm
  have hP : va_P D vwCl [(mo, .inr (12, [.int 0, .ref m1, .ref m2, .ref m3, .ref m4, .ref m5, .int 0, .int 0, .int 0, .int 0, .int 0, .long 0, .int 0, .int (-1), .int 0, .int (-1), .ref m16, .ref m17, .ref m18, .ref m19, .ref m20, .ref m21, .ref m22, .ref m23, .int 0, .ref m25, .ref m26, .ref m27, .ref m28, .ref m29, .int 0, .ref m31, .ref m32, .ref m33, .int 0, .int 0, .int 0, .ref m37, .ref m38, .ref m39, .ref m40, .long 0])), (m17, .inl (k 0, 30, .inl f17)), (m18, .inl (k 0, 250, .inl f18)), (m19, .inl (k 0, 40, .inl f19)), (m20, .inl (k 0, 120, .inl f20)), (m21, .inl (k 0, 20, .inl f21)), (m22, .inl (k 0, 600, .inl f22)), (m16, .inl (k 0, 5, .inl o_2))] H1 := hP
  have hD : va_D A [(mo, .inr (12, [.int 0, .ref m1, .ref m2, .ref m3, .ref m4, .ref m5, .int 0, .int 0, .int 0, .int 0, .int 0, .long 0, .int 0, .int (-1), .int 0, .int (-1), .ref m16, .ref m17, .ref m18, .ref m19, .ref m20, .ref m21, .ref m22, .ref m23, .int 0, .ref m25, .ref m26, .ref m27, .ref m28, .ref m29, .int 0, .ref m31, .ref m32, .ref m33, .int 0, .int 0, .int 0, .ref m37, .ref m38, .ref m39, .ref m40, .long 0])), (m17, .inl (k 0, 30, .inl f17)), (m18, .inl (k 0, 250, .inl f18)), (m19, .inl (k 0, 40, .inl f19)), (m20, .inl (k 0, 120, .inl f20)), (m21, .inl (k 0, 20, .inl f21)), (m22, .inl (k 0, 600, .inl f22)), (m16, .inl (k 0, 5, .inl o_2))] := hD
  generalize H1 = H at hP hS ⊢
  have hw_3 : (∀ j : Nat, f16 j = (0 : Int32)) → ∀ j : Nat, o_2 j = (0 : Int32) := hw
  clear hw
  refine lv_aload_n hx hb dX12_copyTown_10 rfl (lv_at hl 0 rfl) ?_
  refine va_get (D := D) (ci := 12) (v := .ref m17) (C := RX12) (T := TX12) (N := 42) hx hb hts iT_X12 hown hK hP 0 rfl rfl 17 (by decide) (hts _ tw_6_70) (fun _ h9 => h9) rfl dX12_copyTown_11 ?_
  refine lv_bipush (v := 6) hx hb dX12_copyTown_14 (by decide) ?_
  refine lv_iload_n hx hb dX12_copyTown_16 rfl (lv_at hl 1 rfl) ?_
  refine lv_iload_n hx hb dX12_copyTown_17 rfl (lv_at hl 2 rfl) ?_
  have hPc := hP.sub (ws' := [(m17, .inl (k 0, 30, .inl f17))]) [1] rfl
  have hDc := hD.sub (ws' := [(m17, .inl (k 0, 30, .inl f17))]) [1] (by decide) rfl
  have hFc := va_free (wc := [(m17, .inl (k 0, 30, .inl f17))]) hD hS hA [1] rfl
  refine va_callv (va_runS (As := [.ref m17, .int 6, .int 4, .int 0]) (rest := []) ⟨hx, hb, hml, hown, hts⟩ (c_X12_copyRow_30_4_0 l D k m17 f17 H.size) (va_cwS 4 hts (gS tw_7_91 tw_7_92 tw_1_13 tw_7_93) rfl rfl rfl hdS_X12_copyRow ⟨Nat.le_of_ble_eq_true rfl, Nat.le_of_ble_eq_true rfl⟩) (cz_S hK hPc hDc hN [.ref m17, .int 6, .int 4, .int 0]) rfl rfl hl.1 rfl (lv_room (Nat.le_of_ble_eq_true rfl)) dX12_copyTown_18 ⟨Nat.le_of_ble_eq_true rfl, Nat.le_of_ble_eq_true rfl⟩) hS (fun q _ h => hFc q h) hFc (fun uZ tZ H1 locs ht hvm hw hB hz1 hk1 hS => ?_)
  obtain ⟨o_5, rfl⟩ : ∃ z, z = uZ := ⟨_, rfl⟩
  obtain ⟨hP1, hK1, hD1⟩ := hB
  rw [ht] at hP1
  obtain ⟨hP, hD⟩ := va_join (wr := [(mo, .inr (12, [.int 0, .ref m1, .ref m2, .ref m3, .ref m4, .ref m5, .int 0, .int 0, .int 0, .int 0, .int 0, .long 0, .int 0, .int (-1), .int 0, .int (-1), .ref m16, .ref m17, .ref m18, .ref m19, .ref m20, .ref m21, .ref m22, .ref m23, .int 0, .ref m25, .ref m26, .ref m27, .ref m28, .ref m29, .int 0, .ref m31, .ref m32, .ref m33, .int 0, .int 0, .int 0, .ref m37, .ref m38, .ref m39, .ref m40, .long 0])), (m18, .inl (k 0, 250, .inl f18)), (m19, .inl (k 0, 40, .inl f19)), (m20, .inl (k 0, 120, .inl f20)), (m21, .inl (k 0, 20, .inl f21)), (m22, .inl (k 0, 600, .inl f22)), (m16, .inl (k 0, 5, .inl o_2))]) (w1 := [(m17, .inl (k 0, 30, .inl o_5))]) hP hD [1] [0, 2, 3, 4, 5, 6, 7] rfl rfl (by decide) (by decide) hk1 hFc hP1 hD1
  clear hK1 hP1 hD1 hPc hDc hFc
  clear hk1 hz1 ht hvm
  have hP : va_P D vwCl [(mo, .inr (12, [.int 0, .ref m1, .ref m2, .ref m3, .ref m4, .ref m5, .int 0, .int 0, .int 0, .int 0, .int 0, .long 0, .int 0, .int (-1), .int 0, .int (-1), .ref m16, .ref m17, .ref m18, .ref m19, .ref m20, .ref m21, .ref m22, .ref m23, .int 0, .ref m25, .ref m26, .ref m27, .ref m28, .ref m29, .int 0, .ref m31, .ref m32, .ref m33, .int 0, .int 0, .int 0, .ref m37, .ref m38, .ref m39, .ref m40, .long 0])), (m18, .inl (k 0, 250, .inl f18)), (m19, .inl (k 0, 40, .inl f19)), (m20, .inl (k 0, 120, .inl f20)), (m21, .inl (k 0, 20, .inl f21)), (m22, .inl (k 0, 600, .inl f22)), (m16, .inl (k 0, 5, .inl o_2)), (m17, .inl (k 0, 30, .inl o_5))] H1 := hP
  have hD : va_D A [(mo, .inr (12, [.int 0, .ref m1, .ref m2, .ref m3, .ref m4, .ref m5, .int 0, .int 0, .int 0, .int 0, .int 0, .long 0, .int 0, .int (-1), .int 0, .int (-1), .ref m16, .ref m17, .ref m18, .ref m19, .ref m20, .ref m21, .ref m22, .ref m23, .int 0, .ref m25, .ref m26, .ref m27, .ref m28, .ref m29, .int 0, .ref m31, .ref m32, .ref m33, .int 0, .int 0, .int 0, .ref m37, .ref m38, .ref m39, .ref m40, .long 0])), (m18, .inl (k 0, 250, .inl f18)), (m19, .inl (k 0, 40, .inl f19)), (m20, .inl (k 0, 120, .inl f20)), (m21, .inl (k 0, 20, .inl f21)), (m22, .inl (k 0, 600, .inl f22)), (m16, .inl (k 0, 5, .inl o_2)), (m17, .inl (k 0, 30, .inl o_5))] := hD
  generalize H1 = H at hP hS ⊢
  have hw_6 : (∀ j : Nat, f17 j = (0 : Int32)) → ∀ j : Nat, o_5 j = (0 : Int32) := hw
  clear hw
  refine lv_aload_n hx hb dX12_copyTown_21 rfl (lv_at hl 0 rfl) ?_
  refine va_get (D := D) (ci := 12) (v := .ref m18) (C := RX12) (T := TX12) (N := 42) hx hb hts iT_X12 hown hK hP 0 rfl rfl 18 (by decide) (hts _ tw_6_71) (fun _ h9 => h9) rfl dX12_copyTown_22 ?_
  refine lv_bipush (v := 50) hx hb dX12_copyTown_25 (by decide) ?_
  refine lv_iload_n hx hb dX12_copyTown_27 rfl (lv_at hl 1 rfl) ?_
  refine lv_iload_n hx hb dX12_copyTown_28 rfl (lv_at hl 2 rfl) ?_
  have hPc := hP.sub (ws' := [(m18, .inl (k 0, 250, .inl f18))]) [1] rfl
  have hDc := hD.sub (ws' := [(m18, .inl (k 0, 250, .inl f18))]) [1] (by decide) rfl
  have hFc := va_free (wc := [(m18, .inl (k 0, 250, .inl f18))]) hD hS hA [1] rfl
  refine va_callv (va_runS (As := [.ref m18, .int 50, .int 4, .int 0]) (rest := []) ⟨hx, hb, hml, hown, hts⟩ (c_X12_copyRow_250_4_0 l D k m18 f18 H.size) (va_cwS 4 hts (gS tw_7_91 tw_7_92 tw_1_13 tw_7_93) rfl rfl rfl hdS_X12_copyRow ⟨Nat.le_of_ble_eq_true rfl, Nat.le_of_ble_eq_true rfl⟩) (cz_S hK hPc hDc hN [.ref m18, .int 50, .int 4, .int 0]) rfl rfl hl.1 rfl (lv_room (Nat.le_of_ble_eq_true rfl)) dX12_copyTown_29 ⟨Nat.le_of_ble_eq_true rfl, Nat.le_of_ble_eq_true rfl⟩) hS (fun q _ h => hFc q h) hFc (fun uZ tZ H1 locs ht hvm hw hB hz1 hk1 hS => ?_)
  obtain ⟨o_8, rfl⟩ : ∃ z, z = uZ := ⟨_, rfl⟩
  obtain ⟨hP1, hK1, hD1⟩ := hB
  rw [ht] at hP1
  obtain ⟨hP, hD⟩ := va_join (wr := [(mo, .inr (12, [.int 0, .ref m1, .ref m2, .ref m3, .ref m4, .ref m5, .int 0, .int 0, .int 0, .int 0, .int 0, .long 0, .int 0, .int (-1), .int 0, .int (-1), .ref m16, .ref m17, .ref m18, .ref m19, .ref m20, .ref m21, .ref m22, .ref m23, .int 0, .ref m25, .ref m26, .ref m27, .ref m28, .ref m29, .int 0, .ref m31, .ref m32, .ref m33, .int 0, .int 0, .int 0, .ref m37, .ref m38, .ref m39, .ref m40, .long 0])), (m19, .inl (k 0, 40, .inl f19)), (m20, .inl (k 0, 120, .inl f20)), (m21, .inl (k 0, 20, .inl f21)), (m22, .inl (k 0, 600, .inl f22)), (m16, .inl (k 0, 5, .inl o_2)), (m17, .inl (k 0, 30, .inl o_5))]) (w1 := [(m18, .inl (k 0, 250, .inl o_8))]) hP hD [1] [0, 2, 3, 4, 5, 6, 7] rfl rfl (by decide) (by decide) hk1 hFc hP1 hD1
  clear hK1 hP1 hD1 hPc hDc hFc
  clear hk1 hz1 ht hvm
  have hP : va_P D vwCl [(mo, .inr (12, [.int 0, .ref m1, .ref m2, .ref m3, .ref m4, .ref m5, .int 0, .int 0, .int 0, .int 0, .int 0, .long 0, .int 0, .int (-1), .int 0, .int (-1), .ref m16, .ref m17, .ref m18, .ref m19, .ref m20, .ref m21, .ref m22, .ref m23, .int 0, .ref m25, .ref m26, .ref m27, .ref m28, .ref m29, .int 0, .ref m31, .ref m32, .ref m33, .int 0, .int 0, .int 0, .ref m37, .ref m38, .ref m39, .ref m40, .long 0])), (m19, .inl (k 0, 40, .inl f19)), (m20, .inl (k 0, 120, .inl f20)), (m21, .inl (k 0, 20, .inl f21)), (m22, .inl (k 0, 600, .inl f22)), (m16, .inl (k 0, 5, .inl o_2)), (m17, .inl (k 0, 30, .inl o_5)), (m18, .inl (k 0, 250, .inl o_8))] H1 := hP
  have hD : va_D A [(mo, .inr (12, [.int 0, .ref m1, .ref m2, .ref m3, .ref m4, .ref m5, .int 0, .int 0, .int 0, .int 0, .int 0, .long 0, .int 0, .int (-1), .int 0, .int (-1), .ref m16, .ref m17, .ref m18, .ref m19, .ref m20, .ref m21, .ref m22, .ref m23, .int 0, .ref m25, .ref m26, .ref m27, .ref m28, .ref m29, .int 0, .ref m31, .ref m32, .ref m33, .int 0, .int 0, .int 0, .ref m37, .ref m38, .ref m39, .ref m40, .long 0])), (m19, .inl (k 0, 40, .inl f19)), (m20, .inl (k 0, 120, .inl f20)), (m21, .inl (k 0, 20, .inl f21)), (m22, .inl (k 0, 600, .inl f22)), (m16, .inl (k 0, 5, .inl o_2)), (m17, .inl (k 0, 30, .inl o_5)), (m18, .inl (k 0, 250, .inl o_8))] := hD
  generalize H1 = H at hP hS ⊢
  have hw_9 : (∀ j : Nat, f18 j = (0 : Int32)) → ∀ j : Nat, o_8 j = (0 : Int32) := hw
  clear hw
  refine lv_aload_n hx hb dX12_copyTown_32 rfl (lv_at hl 0 rfl) ?_
  refine va_get (D := D) (ci := 12) (v := .ref m19) (C := RX12) (T := TX12) (N := 42) hx hb hts iT_X12 hown hK hP 0 rfl rfl 19 (by decide) (hts _ tw_6_72) (fun _ h9 => h9) rfl dX12_copyTown_33 ?_
  refine lv_bipush (v := 8) hx hb dX12_copyTown_36 (by decide) ?_
  refine lv_iload_n hx hb dX12_copyTown_38 rfl (lv_at hl 1 rfl) ?_
  refine lv_iload_n hx hb dX12_copyTown_39 rfl (lv_at hl 2 rfl) ?_
  have hPc := hP.sub (ws' := [(m19, .inl (k 0, 40, .inl f19))]) [1] rfl
  have hDc := hD.sub (ws' := [(m19, .inl (k 0, 40, .inl f19))]) [1] (by decide) rfl
  have hFc := va_free (wc := [(m19, .inl (k 0, 40, .inl f19))]) hD hS hA [1] rfl
  refine va_callv (va_runS (As := [.ref m19, .int 8, .int 4, .int 0]) (rest := []) ⟨hx, hb, hml, hown, hts⟩ (c_X12_copyRow_40_4_0 l D k m19 f19 H.size) (va_cwS 4 hts (gS tw_7_91 tw_7_92 tw_1_13 tw_7_93) rfl rfl rfl hdS_X12_copyRow ⟨Nat.le_of_ble_eq_true rfl, Nat.le_of_ble_eq_true rfl⟩) (cz_S hK hPc hDc hN [.ref m19, .int 8, .int 4, .int 0]) rfl rfl hl.1 rfl (lv_room (Nat.le_of_ble_eq_true rfl)) dX12_copyTown_40 ⟨Nat.le_of_ble_eq_true rfl, Nat.le_of_ble_eq_true rfl⟩) hS (fun q _ h => hFc q h) hFc (fun uZ tZ H1 locs ht hvm hw hB hz1 hk1 hS => ?_)
  obtain ⟨o_11, rfl⟩ : ∃ z, z = uZ := ⟨_, rfl⟩
  obtain ⟨hP1, hK1, hD1⟩ := hB
  rw [ht] at hP1
  obtain ⟨hP, hD⟩ := va_join (wr := [(mo, .inr (12, [.int 0, .ref m1, .ref m2, .ref m3, .ref m4, .ref m5, .int 0, .int 0, .int 0, .int 0, .int 0, .long 0, .int 0, .int (-1), .int 0, .int (-1), .ref m16, .ref m17, .ref m18, .ref m19, .ref m20, .ref m21, .ref m22, .ref m23, .int 0, .ref m25, .ref m26, .ref m27, .ref m28, .ref m29, .int 0, .ref m31, .ref m32, .ref m33, .int 0, .int 0, .int 0, .ref m37, .ref m38, .ref m39, .ref m40, .long 0])), (m20, .inl (k 0, 120, .inl f20)), (m21, .inl (k 0, 20, .inl f21)), (m22, .inl (k 0, 600, .inl f22)), (m16, .inl (k 0, 5, .inl o_2)), (m17, .inl (k 0, 30, .inl o_5)), (m18, .inl (k 0, 250, .inl o_8))]) (w1 := [(m19, .inl (k 0, 40, .inl o_11))]) hP hD [1] [0, 2, 3, 4, 5, 6, 7] rfl rfl (by decide) (by decide) hk1 hFc hP1 hD1
  clear hK1 hP1 hD1 hPc hDc hFc
  clear hk1 hz1 ht hvm
  have hP : va_P D vwCl [(mo, .inr (12, [.int 0, .ref m1, .ref m2, .ref m3, .ref m4, .ref m5, .int 0, .int 0, .int 0, .int 0, .int 0, .long 0, .int 0, .int (-1), .int 0, .int (-1), .ref m16, .ref m17, .ref m18, .ref m19, .ref m20, .ref m21, .ref m22, .ref m23, .int 0, .ref m25, .ref m26, .ref m27, .ref m28, .ref m29, .int 0, .ref m31, .ref m32, .ref m33, .int 0, .int 0, .int 0, .ref m37, .ref m38, .ref m39, .ref m40, .long 0])), (m20, .inl (k 0, 120, .inl f20)), (m21, .inl (k 0, 20, .inl f21)), (m22, .inl (k 0, 600, .inl f22)), (m16, .inl (k 0, 5, .inl o_2)), (m17, .inl (k 0, 30, .inl o_5)), (m18, .inl (k 0, 250, .inl o_8)), (m19, .inl (k 0, 40, .inl o_11))] H1 := hP
  have hD : va_D A [(mo, .inr (12, [.int 0, .ref m1, .ref m2, .ref m3, .ref m4, .ref m5, .int 0, .int 0, .int 0, .int 0, .int 0, .long 0, .int 0, .int (-1), .int 0, .int (-1), .ref m16, .ref m17, .ref m18, .ref m19, .ref m20, .ref m21, .ref m22, .ref m23, .int 0, .ref m25, .ref m26, .ref m27, .ref m28, .ref m29, .int 0, .ref m31, .ref m32, .ref m33, .int 0, .int 0, .int 0, .ref m37, .ref m38, .ref m39, .ref m40, .long 0])), (m20, .inl (k 0, 120, .inl f20)), (m21, .inl (k 0, 20, .inl f21)), (m22, .inl (k 0, 600, .inl f22)), (m16, .inl (k 0, 5, .inl o_2)), (m17, .inl (k 0, 30, .inl o_5)), (m18, .inl (k 0, 250, .inl o_8)), (m19, .inl (k 0, 40, .inl o_11))] := hD
  generalize H1 = H at hP hS ⊢
  have hw_12 : (∀ j : Nat, f19 j = (0 : Int32)) → ∀ j : Nat, o_11 j = (0 : Int32) := hw
  clear hw
  refine lv_aload_n hx hb dX12_copyTown_43 rfl (lv_at hl 0 rfl) ?_
  refine va_get (D := D) (ci := 12) (v := .ref m20) (C := RX12) (T := TX12) (N := 42) hx hb hts iT_X12 hown hK hP 0 rfl rfl 20 (by decide) (hts _ tw_6_73) (fun _ h9 => h9) rfl dX12_copyTown_44 ?_
  refine lv_bipush (v := 24) hx hb dX12_copyTown_47 (by decide) ?_
  refine lv_iload_n hx hb dX12_copyTown_49 rfl (lv_at hl 1 rfl) ?_
  refine lv_iload_n hx hb dX12_copyTown_50 rfl (lv_at hl 2 rfl) ?_
  have hPc := hP.sub (ws' := [(m20, .inl (k 0, 120, .inl f20))]) [1] rfl
  have hDc := hD.sub (ws' := [(m20, .inl (k 0, 120, .inl f20))]) [1] (by decide) rfl
  have hFc := va_free (wc := [(m20, .inl (k 0, 120, .inl f20))]) hD hS hA [1] rfl
  refine va_callv (va_runS (As := [.ref m20, .int 24, .int 4, .int 0]) (rest := []) ⟨hx, hb, hml, hown, hts⟩ (c_X12_copyRow_120_4_0 l D k m20 f20 H.size) (va_cwS 4 hts (gS tw_7_91 tw_7_92 tw_1_13 tw_7_93) rfl rfl rfl hdS_X12_copyRow ⟨Nat.le_of_ble_eq_true rfl, Nat.le_of_ble_eq_true rfl⟩) (cz_S hK hPc hDc hN [.ref m20, .int 24, .int 4, .int 0]) rfl rfl hl.1 rfl (lv_room (Nat.le_of_ble_eq_true rfl)) dX12_copyTown_51 ⟨Nat.le_of_ble_eq_true rfl, Nat.le_of_ble_eq_true rfl⟩) hS (fun q _ h => hFc q h) hFc (fun uZ tZ H1 locs ht hvm hw hB hz1 hk1 hS => ?_)
  obtain ⟨o_14, rfl⟩ : ∃ z, z = uZ := ⟨_, rfl⟩
  obtain ⟨hP1, hK1, hD1⟩ := hB
  rw [ht] at hP1
  obtain ⟨hP, hD⟩ := va_join (wr := [(mo, .inr (12, [.int 0, .ref m1, .ref m2, .ref m3, .ref m4, .ref m5, .int 0, .int 0, .int 0, .int 0, .int 0, .long 0, .int 0, .int (-1), .int 0, .int (-1), .ref m16, .ref m17, .ref m18, .ref m19, .ref m20, .ref m21, .ref m22, .ref m23, .int 0, .ref m25, .ref m26, .ref m27, .ref m28, .ref m29, .int 0, .ref m31, .ref m32, .ref m33, .int 0, .int 0, .int 0, .ref m37, .ref m38, .ref m39, .ref m40, .long 0])), (m21, .inl (k 0, 20, .inl f21)), (m22, .inl (k 0, 600, .inl f22)), (m16, .inl (k 0, 5, .inl o_2)), (m17, .inl (k 0, 30, .inl o_5)), (m18, .inl (k 0, 250, .inl o_8)), (m19, .inl (k 0, 40, .inl o_11))]) (w1 := [(m20, .inl (k 0, 120, .inl o_14))]) hP hD [1] [0, 2, 3, 4, 5, 6, 7] rfl rfl (by decide) (by decide) hk1 hFc hP1 hD1
  clear hK1 hP1 hD1 hPc hDc hFc
  clear hk1 hz1 ht hvm
  have hP : va_P D vwCl [(mo, .inr (12, [.int 0, .ref m1, .ref m2, .ref m3, .ref m4, .ref m5, .int 0, .int 0, .int 0, .int 0, .int 0, .long 0, .int 0, .int (-1), .int 0, .int (-1), .ref m16, .ref m17, .ref m18, .ref m19, .ref m20, .ref m21, .ref m22, .ref m23, .int 0, .ref m25, .ref m26, .ref m27, .ref m28, .ref m29, .int 0, .ref m31, .ref m32, .ref m33, .int 0, .int 0, .int 0, .ref m37, .ref m38, .ref m39, .ref m40, .long 0])), (m21, .inl (k 0, 20, .inl f21)), (m22, .inl (k 0, 600, .inl f22)), (m16, .inl (k 0, 5, .inl o_2)), (m17, .inl (k 0, 30, .inl o_5)), (m18, .inl (k 0, 250, .inl o_8)), (m19, .inl (k 0, 40, .inl o_11)), (m20, .inl (k 0, 120, .inl o_14))] H1 := hP
  have hD : va_D A [(mo, .inr (12, [.int 0, .ref m1, .ref m2, .ref m3, .ref m4, .ref m5, .int 0, .int 0, .int 0, .int 0, .int 0, .long 0, .int 0, .int (-1), .int 0, .int (-1), .ref m16, .ref m17, .ref m18, .ref m19, .ref m20, .ref m21, .ref m22, .ref m23, .int 0, .ref m25, .ref m26, .ref m27, .ref m28, .ref m29, .int 0, .ref m31, .ref m32, .ref m33, .int 0, .int 0, .int 0, .ref m37, .ref m38, .ref m39, .ref m40, .long 0])), (m21, .inl (k 0, 20, .inl f21)), (m22, .inl (k 0, 600, .inl f22)), (m16, .inl (k 0, 5, .inl o_2)), (m17, .inl (k 0, 30, .inl o_5)), (m18, .inl (k 0, 250, .inl o_8)), (m19, .inl (k 0, 40, .inl o_11)), (m20, .inl (k 0, 120, .inl o_14))] := hD
  generalize H1 = H at hP hS ⊢
  have hw_15 : (∀ j : Nat, f20 j = (0 : Int32)) → ∀ j : Nat, o_14 j = (0 : Int32) := hw
  clear hw
  refine lv_aload_n hx hb dX12_copyTown_54 rfl (lv_at hl 0 rfl) ?_
  refine va_get (D := D) (ci := 12) (v := .ref m21) (C := RX12) (T := TX12) (N := 42) hx hb hts iT_X12 hown hK hP 0 rfl rfl 21 (by decide) (hts _ tw_6_74) (fun _ h9 => h9) rfl dX12_copyTown_55 ?_
  refine lv_iconst (v := 4) hx hb dX12_copyTown_58 (by decide) ?_
  refine lv_iload_n hx hb dX12_copyTown_59 rfl (lv_at hl 1 rfl) ?_
  refine lv_iload_n hx hb dX12_copyTown_60 rfl (lv_at hl 2 rfl) ?_
  have hPc := hP.sub (ws' := [(m21, .inl (k 0, 20, .inl f21))]) [1] rfl
  have hDc := hD.sub (ws' := [(m21, .inl (k 0, 20, .inl f21))]) [1] (by decide) rfl
  have hFc := va_free (wc := [(m21, .inl (k 0, 20, .inl f21))]) hD hS hA [1] rfl
  refine va_callv (va_runS (As := [.ref m21, .int 4, .int 4, .int 0]) (rest := []) ⟨hx, hb, hml, hown, hts⟩ (c_X12_copyRow_20_4_0 l D k m21 f21 H.size) (va_cwS 4 hts (gS tw_7_91 tw_7_92 tw_1_13 tw_7_93) rfl rfl rfl hdS_X12_copyRow ⟨Nat.le_of_ble_eq_true rfl, Nat.le_of_ble_eq_true rfl⟩) (cz_S hK hPc hDc hN [.ref m21, .int 4, .int 4, .int 0]) rfl rfl hl.1 rfl (lv_room (Nat.le_of_ble_eq_true rfl)) dX12_copyTown_61 ⟨Nat.le_of_ble_eq_true rfl, Nat.le_of_ble_eq_true rfl⟩) hS (fun q _ h => hFc q h) hFc (fun uZ tZ H1 locs ht hvm hw hB hz1 hk1 hS => ?_)
  obtain ⟨o_17, rfl⟩ : ∃ z, z = uZ := ⟨_, rfl⟩
  obtain ⟨hP1, hK1, hD1⟩ := hB
  rw [ht] at hP1
  obtain ⟨hP, hD⟩ := va_join (wr := [(mo, .inr (12, [.int 0, .ref m1, .ref m2, .ref m3, .ref m4, .ref m5, .int 0, .int 0, .int 0, .int 0, .int 0, .long 0, .int 0, .int (-1), .int 0, .int (-1), .ref m16, .ref m17, .ref m18, .ref m19, .ref m20, .ref m21, .ref m22, .ref m23, .int 0, .ref m25, .ref m26, .ref m27, .ref m28, .ref m29, .int 0, .ref m31, .ref m32, .ref m33, .int 0, .int 0, .int 0, .ref m37, .ref m38, .ref m39, .ref m40, .long 0])), (m22, .inl (k 0, 600, .inl f22)), (m16, .inl (k 0, 5, .inl o_2)), (m17, .inl (k 0, 30, .inl o_5)), (m18, .inl (k 0, 250, .inl o_8)), (m19, .inl (k 0, 40, .inl o_11)), (m20, .inl (k 0, 120, .inl o_14))]) (w1 := [(m21, .inl (k 0, 20, .inl o_17))]) hP hD [1] [0, 2, 3, 4, 5, 6, 7] rfl rfl (by decide) (by decide) hk1 hFc hP1 hD1
  clear hK1 hP1 hD1 hPc hDc hFc
  clear hk1 hz1 ht hvm
  have hP : va_P D vwCl [(mo, .inr (12, [.int 0, .ref m1, .ref m2, .ref m3, .ref m4, .ref m5, .int 0, .int 0, .int 0, .int 0, .int 0, .long 0, .int 0, .int (-1), .int 0, .int (-1), .ref m16, .ref m17, .ref m18, .ref m19, .ref m20, .ref m21, .ref m22, .ref m23, .int 0, .ref m25, .ref m26, .ref m27, .ref m28, .ref m29, .int 0, .ref m31, .ref m32, .ref m33, .int 0, .int 0, .int 0, .ref m37, .ref m38, .ref m39, .ref m40, .long 0])), (m22, .inl (k 0, 600, .inl f22)), (m16, .inl (k 0, 5, .inl o_2)), (m17, .inl (k 0, 30, .inl o_5)), (m18, .inl (k 0, 250, .inl o_8)), (m19, .inl (k 0, 40, .inl o_11)), (m20, .inl (k 0, 120, .inl o_14)), (m21, .inl (k 0, 20, .inl o_17))] H1 := hP
  have hD : va_D A [(mo, .inr (12, [.int 0, .ref m1, .ref m2, .ref m3, .ref m4, .ref m5, .int 0, .int 0, .int 0, .int 0, .int 0, .long 0, .int 0, .int (-1), .int 0, .int (-1), .ref m16, .ref m17, .ref m18, .ref m19, .ref m20, .ref m21, .ref m22, .ref m23, .int 0, .ref m25, .ref m26, .ref m27, .ref m28, .ref m29, .int 0, .ref m31, .ref m32, .ref m33, .int 0, .int 0, .int 0, .ref m37, .ref m38, .ref m39, .ref m40, .long 0])), (m22, .inl (k 0, 600, .inl f22)), (m16, .inl (k 0, 5, .inl o_2)), (m17, .inl (k 0, 30, .inl o_5)), (m18, .inl (k 0, 250, .inl o_8)), (m19, .inl (k 0, 40, .inl o_11)), (m20, .inl (k 0, 120, .inl o_14)), (m21, .inl (k 0, 20, .inl o_17))] := hD
  generalize H1 = H at hP hS ⊢
  have hw_18 : (∀ j : Nat, f21 j = (0 : Int32)) → ∀ j : Nat, o_17 j = (0 : Int32) := hw
  clear hw
  refine lv_aload_n hx hb dX12_copyTown_64 rfl (lv_at hl 0 rfl) ?_
  refine va_get (D := D) (ci := 12) (v := .ref m22) (C := RX12) (T := TX12) (N := 42) hx hb hts iT_X12 hown hK hP 0 rfl rfl 22 (by decide) (hts _ tw_6_75) (fun _ h9 => h9) rfl dX12_copyTown_65 ?_
  refine lv_bipush (v := 120) hx hb dX12_copyTown_68 (by decide) ?_
  refine lv_iload_n hx hb dX12_copyTown_70 rfl (lv_at hl 1 rfl) ?_
  refine lv_iload_n hx hb dX12_copyTown_71 rfl (lv_at hl 2 rfl) ?_
  have hPc := hP.sub (ws' := [(m22, .inl (k 0, 600, .inl f22))]) [1] rfl
  have hDc := hD.sub (ws' := [(m22, .inl (k 0, 600, .inl f22))]) [1] (by decide) rfl
  have hFc := va_free (wc := [(m22, .inl (k 0, 600, .inl f22))]) hD hS hA [1] rfl
  refine va_callv (va_runS (As := [.ref m22, .int 120, .int 4, .int 0]) (rest := []) ⟨hx, hb, hml, hown, hts⟩ (c_X12_copyRow_600_4_0 l D k m22 f22 H.size) (va_cwS 4 hts (gS tw_7_91 tw_7_92 tw_1_13 tw_7_93) rfl rfl rfl hdS_X12_copyRow ⟨Nat.le_of_ble_eq_true rfl, Nat.le_of_ble_eq_true rfl⟩) (cz_S hK hPc hDc hN [.ref m22, .int 120, .int 4, .int 0]) rfl rfl hl.1 rfl (lv_room (Nat.le_of_ble_eq_true rfl)) dX12_copyTown_72 ⟨Nat.le_of_ble_eq_true rfl, Nat.le_of_ble_eq_true rfl⟩) hS (fun q _ h => hFc q h) hFc (fun uZ tZ H1 locs ht hvm hw hB hz1 hk1 hS => ?_)
  obtain ⟨o_20, rfl⟩ : ∃ z, z = uZ := ⟨_, rfl⟩
  obtain ⟨hP1, hK1, hD1⟩ := hB
  rw [ht] at hP1
  obtain ⟨hP, hD⟩ := va_join (wr := [(mo, .inr (12, [.int 0, .ref m1, .ref m2, .ref m3, .ref m4, .ref m5, .int 0, .int 0, .int 0, .int 0, .int 0, .long 0, .int 0, .int (-1), .int 0, .int (-1), .ref m16, .ref m17, .ref m18, .ref m19, .ref m20, .ref m21, .ref m22, .ref m23, .int 0, .ref m25, .ref m26, .ref m27, .ref m28, .ref m29, .int 0, .ref m31, .ref m32, .ref m33, .int 0, .int 0, .int 0, .ref m37, .ref m38, .ref m39, .ref m40, .long 0])), (m16, .inl (k 0, 5, .inl o_2)), (m17, .inl (k 0, 30, .inl o_5)), (m18, .inl (k 0, 250, .inl o_8)), (m19, .inl (k 0, 40, .inl o_11)), (m20, .inl (k 0, 120, .inl o_14)), (m21, .inl (k 0, 20, .inl o_17))]) (w1 := [(m22, .inl (k 0, 600, .inl o_20))]) hP hD [1] [0, 2, 3, 4, 5, 6, 7] rfl rfl (by decide) (by decide) hk1 hFc hP1 hD1
  clear hK1 hP1 hD1 hPc hDc hFc
  clear hk1 hz1 ht hvm
  have hP : va_P D vwCl [(mo, .inr (12, [.int 0, .ref m1, .ref m2, .ref m3, .ref m4, .ref m5, .int 0, .int 0, .int 0, .int 0, .int 0, .long 0, .int 0, .int (-1), .int 0, .int (-1), .ref m16, .ref m17, .ref m18, .ref m19, .ref m20, .ref m21, .ref m22, .ref m23, .int 0, .ref m25, .ref m26, .ref m27, .ref m28, .ref m29, .int 0, .ref m31, .ref m32, .ref m33, .int 0, .int 0, .int 0, .ref m37, .ref m38, .ref m39, .ref m40, .long 0])), (m16, .inl (k 0, 5, .inl o_2)), (m17, .inl (k 0, 30, .inl o_5)), (m18, .inl (k 0, 250, .inl o_8)), (m19, .inl (k 0, 40, .inl o_11)), (m20, .inl (k 0, 120, .inl o_14)), (m21, .inl (k 0, 20, .inl o_17)), (m22, .inl (k 0, 600, .inl o_20))] H1 := hP
  have hD : va_D A [(mo, .inr (12, [.int 0, .ref m1, .ref m2, .ref m3, .ref m4, .ref m5, .int 0, .int 0, .int 0, .int 0, .int 0, .long 0, .int 0, .int (-1), .int 0, .int (-1), .ref m16, .ref m17, .ref m18, .ref m19, .ref m20, .ref m21, .ref m22, .ref m23, .int 0, .ref m25, .ref m26, .ref m27, .ref m28, .ref m29, .int 0, .ref m31, .ref m32, .ref m33, .int 0, .int 0, .int 0, .ref m37, .ref m38, .ref m39, .ref m40, .long 0])), (m16, .inl (k 0, 5, .inl o_2)), (m17, .inl (k 0, 30, .inl o_5)), (m18, .inl (k 0, 250, .inl o_8)), (m19, .inl (k 0, 40, .inl o_11)), (m20, .inl (k 0, 120, .inl o_14)), (m21, .inl (k 0, 20, .inl o_17)), (m22, .inl (k 0, 600, .inl o_20))] := hD
  generalize H1 = H at hP hS ⊢
  have hw_21 : (∀ j : Nat, f22 j = (0 : Int32)) → ∀ j : Nat, o_20 j = (0 : Int32) := hw
  clear hw
  have hP9 := hP.sub (ws' := [(mo, .inr (12, [.int 0, .ref m1, .ref m2, .ref m3, .ref m4, .ref m5, .int 0, .int 0, .int 0, .int 0, .int 0, .long 0, .int 0, .int (-1), .int 0, .int (-1), .ref m16, .ref m17, .ref m18, .ref m19, .ref m20, .ref m21, .ref m22, .ref m23, .int 0, .ref m25, .ref m26, .ref m27, .ref m28, .ref m29, .int 0, .ref m31, .ref m32, .ref m33, .int 0, .int 0, .int 0, .ref m37, .ref m38, .ref m39, .ref m40, .long 0])), (m16, .inl (k 0, 5, .inl o_2)), (m17, .inl (k 0, 30, .inl o_5)), (m18, .inl (k 0, 250, .inl o_8)), (m19, .inl (k 0, 40, .inl o_11)), (m20, .inl (k 0, 120, .inl o_14)), (m21, .inl (k 0, 20, .inl o_17)), (m22, .inl (k 0, 600, .inl o_20))]) [0, 1, 2, 3, 4, 5, 6, 7] rfl
  have hD9 := hD.sub (ws' := [(mo, .inr (12, [.int 0, .ref m1, .ref m2, .ref m3, .ref m4, .ref m5, .int 0, .int 0, .int 0, .int 0, .int 0, .long 0, .int 0, .int (-1), .int 0, .int (-1), .ref m16, .ref m17, .ref m18, .ref m19, .ref m20, .ref m21, .ref m22, .ref m23, .int 0, .ref m25, .ref m26, .ref m27, .ref m28, .ref m29, .int 0, .ref m31, .ref m32, .ref m33, .int 0, .int 0, .int 0, .ref m37, .ref m38, .ref m39, .ref m40, .long 0])), (m16, .inl (k 0, 5, .inl o_2)), (m17, .inl (k 0, 30, .inl o_5)), (m18, .inl (k 0, 250, .inl o_8)), (m19, .inl (k 0, 40, .inl o_11)), (m20, .inl (k 0, 120, .inl o_14)), (m21, .inl (k 0, 20, .inl o_17)), (m22, .inl (k 0, 600, .inl o_20))]) [0, 1, 2, 3, 4, 5, 6, 7] (by decide) rfl
  exact W.vret hx hb hr (fun tZ ht hW => ⟨⟨(o_2, o_5, o_8, o_11, o_14, o_17, o_20), rfl, hw_3, by rw [ht]; exact hP9, va_K.moved hW.alike hK, hD9⟩, hS.F ht⟩) hS.2.2 dX12_copyTown_75
set_option maxHeartbeats 4000000 in
set_option maxRecDepth 100000 in
theorem c_X12_copyRow_5_0_1 (l : Launch) (D : va_G) (k : Nat → ClassId) (ra : Nat) (f : Nat → Int32) (sz : Nat) : Met l yX12_copyRow (ww yX12_copyRow cX12_copyRow 5 none) ({ frames := 0, cells := 0, slots := 0, locals := 0 }) (Pre0 D k [(ra, .inl (k 0, 5, .inl f))] sz [.ref ra, .int 1, .int 0, .int 1]) (va_Qv (fun (f2 : (Nat → Int32)) => (∀ j : Nat, f j = (0 : Int32)) → ∀ j : Nat, f2 j = (0 : Int32)) (fun (f2 : (Nat → Int32)) tZ => Bw D k (va_A [(ra, .inl (k 0, 5, .inl f))] sz) [(ra, .inl (k 0, 5, .inl f2))] tZ) (va_A [(ra, .inl (k 0, 5, .inl f))] sz)) 0 0 (va_A [(ra, .inl (k 0, 5, .inl f))] sz) := by
  refine Met.ofW (cc := cX12_copyRow) (maxL := 5) (ret := none) (by decide +kernel) rfl ?_
  intro p e s m args below meth c s₁ B hml hv
  obtain ⟨rfl, hsz, hP, hK, hD0, hN⟩ := hv
  have hx := B.exec
  have hb := B.bytes
  have hr := B.returns
  have hts : ∀ w ∈ TT, w.before _ s = true := fun w h => atoms_spec (ws := ww yX12_copyRow cX12_copyRow 5 none) B.pre w (List.mem_cons_of_mem _ h)
  have hown : s.vm.findClass RX12 = some m.cls := findClass_of_methodNamed B.named
  have hlocks := B.notSynchronized
  subst hsz
  have hD := hD0.self (sz := s.heap.size)
  generalize hAe : va_A [(ra, .inl (k 0, 5, .inl f))] s.heap.size = A at hD ⊢
  have hA : ∀ q : Nat, s.heap.size ≤ q → A q := fun q h => by rw [← hAe]; exact Or.inr h
  have hS : va_S A s.heap s.heap [] := va_S.rf
  have hl := lv_entry ([.ref ra, .int 1, .int 0, .int 1]) (n := 5) (Nat.le_of_ble_eq_true rfl)
  rw [lg_entry_eq]
  generalize (lg_sl ([.ref ra, .int 1, .int 0, .int 1]) ++ List.replicate (5 - (lg_sl ([.ref ra, .int 1, .int 0, .int 1])).length) Slot.unset).toArray = ls at hl ⊢
  have hl : lv_has ls 5 [(0, .ref ra), (1, .int 1), (2, .int 0), (3, .int 1)] := hl
  refine lv_iconst (v := 0) hx hb dX12_copyRow_0 (by decide) ?_
  refine lv_istore (lv' := [(4, .int 0), (0, .ref ra), (1, .int 1), (2, .int 0), (3, .int 1)]) hx hb dX12_copyRow_1 hl (by decide) rfl (fun ls hl => ?_)
  refine loop_r (Wg := fun H locs ls => W p l e _ s m _ below meth c H locs _ _ _ (F0 m 3 ls [])) (fun n9 H locs ls => ∃ (i : Int32) (gf : Nat → Int32), n9 = (1 - i.toInt).toNat ∧ (0 ≤ i.toInt) ∧ (i.toInt ≤ 1) ∧ ((∀ j : Nat, f j = (0 : Int32)) → ∀ j : Nat, gf j = (0 : Int32)) ∧ va_P D vwCl [(ra, .inl (k 0, 5, .inl gf))] H ∧ va_D A [(ra, .inl (k 0, 5, .inl gf))] ∧ va_S A s.heap H locs ∧ lv_has ls 5 [(4, .int i), (0, .ref ra), (1, .int 1), (2, .int 0), (3, .int 1)]) (fun n9 H locs ls hI ih_1 => ?_) _ _ _ _ ⟨0, f, rfl, (show 0 ≤ 0 from by omega), (show 0 ≤ 1 from by omega), (fun h => h), hP.sub (ws' := [(ra, .inl (k 0, 5, .inl f))]) [0] rfl, hD.sub (ws' := [(ra, .inl (k 0, 5, .inl f))]) [0] (by decide) rfl, hS, lv_sub hl [0, 1, 2, 3, 4] rfl⟩
  clear hP hD hS hl
  obtain ⟨i, gf, en_2, hi1, hi2, hz, hP, hD, hS, hl⟩ := hI
  refine lv_iload hx hb dX12_copyRow_3 (lv_at hl 0 rfl) ?_
  refine lv_iload_n hx hb dX12_copyRow_5 rfl (lv_at hl 2 rfl) ?_
  refine lv_icmp_ge (tgt := 31) hx hb dX12_copyRow_6 (by decide) (fun h_3 => ?_) (fun h_3 => ?_)
  · skip
    have zh_3 : 1 ≤ i.toInt := z_le h_3
    have hP9 := hP.sub (ws' := [(ra, .inl (k 0, 5, .inl gf))]) [0] rfl
    have hD9 := hD.sub (ws' := [(ra, .inl (k 0, 5, .inl gf))]) [0] (by decide) rfl
    exact W.vret hx hb hr (fun tZ ht hW => ⟨⟨gf, rfl, hz, by rw [ht]; exact hP9, va_K.moved hW.alike hK, hD9⟩, hS.F ht⟩) hS.2.2 dX12_copyRow_31
  · skip
    have zh_3 : i.toInt < 1 := z_nle h_3
    refine lv_aload_n hx hb dX12_copyRow_9 rfl (lv_at hl 1 rfl) ?_
    refine lv_iload_n hx hb dX12_copyRow_10 rfl (lv_at hl 2 rfl) ?_
    refine lv_iload_n hx hb dX12_copyRow_11 rfl (lv_at hl 4 rfl) ?_
    refine lv_imul hx hb dX12_copyRow_12 ?_
    refine lv_topi (fun x_4 ex_4 => ?_)
    obtain rfl : x_4 = 1 := ex_4.trans (by decide)
    refine lv_iload hx hb dX12_copyRow_13 (lv_at hl 0 rfl) ?_
    refine lv_iadd hx hb dX12_copyRow_15 ?_
    refine lv_topi (fun x_5 ex_5 => ?_)
    have zx_5 : x_5.toInt = 1 + i.toInt := by rw [ex_5]; exact z_add rfl rfl (by omega) (by omega)
    refine lv_aload_n hx hb dX12_copyRow_16 rfl (lv_at hl 1 rfl) ?_
    refine lv_iload_n hx hb dX12_copyRow_17 rfl (lv_at hl 2 rfl) ?_
    refine lv_iload_n hx hb dX12_copyRow_18 rfl (lv_at hl 3 rfl) ?_
    refine lv_imul hx hb dX12_copyRow_19 ?_
    refine lv_topi (fun x_6 ex_6 => ?_)
    obtain rfl : x_6 = 0 := ex_6.trans (by decide)
    refine lv_iload hx hb dX12_copyRow_20 (lv_at hl 0 rfl) ?_
    refine lv_iadd hx hb dX12_copyRow_22 ?_
    refine lv_topi (fun x_7 ex_7 => ?_)
    have zx_7 : x_7.toInt = 0 + i.toInt := by rw [ex_7]; exact z_add rfl rfl (by omega) (by omega)
    refine va_iald hx hb hK hP 0 0 rfl rfl (z_in (by omega) (by omega)) dX12_copyRow_23 ?_
    refine lv_topi (fun x_8 ex_8 => ?_)
    refine va_iast hx hb hK hP hD hS 0 0 rfl rfl (z_in (by omega) (by omega)) dX12_copyRow_24 (fun H locs hP hD hS => ?_)
    have hP : va_P D vwCl [(ra, .inl (k 0, 5, .inl (upd gf x_5.toNatClampNeg x_8)))] H := hP
    have hD : va_D A [(ra, .inl (k 0, 5, .inl (upd gf x_5.toNatClampNeg x_8)))] := hD
    obtain ⟨x_9, ex_9⟩ : ∃ y : Int32, y = i + 1 := ⟨_, rfl⟩
    have zx_9 : x_9.toInt = i.toInt + 1 := by rw [ex_9]; exact z_add rfl rfl (by omega) (by omega)
    refine lv_iinc (v := x_9) (lv' := [(4, .int x_9), (0, .ref ra), (1, .int 1), (2, .int 0), (3, .int 1)]) hx hb dX12_copyRow_25 hl (k := 0) rfl (by rw [ex_9]; rfl) (by decide) rfl (fun ls hl => ?_)
    refine lv_goto (tgt := 3) hx hb dX12_copyRow_28 (by decide) ?_
    exact ih_1 _ _ _ _ (by omega) ⟨x_9, (upd gf x_5.toNatClampNeg x_8), rfl, (show 0 ≤ x_9.toInt from by omega), (show x_9.toInt ≤ 1 from by omega), (fun h => updx (hz h) (ex_8.trans (hz h _))), hP.sub (ws' := [(ra, .inl (k 0, 5, .inl (upd gf x_5.toNatClampNeg x_8)))]) [0] rfl, hD.sub (ws' := [(ra, .inl (k 0, 5, .inl (upd gf x_5.toNatClampNeg x_8)))]) [0] (by decide) rfl, hS, lv_sub hl [0, 1, 2, 3, 4] rfl⟩
set_option maxHeartbeats 4000000 in
set_option maxRecDepth 100000 in
theorem c_X12_copyRow_30_0_1 (l : Launch) (D : va_G) (k : Nat → ClassId) (ra : Nat) (f : Nat → Int32) (sz : Nat) : Met l yX12_copyRow (ww yX12_copyRow cX12_copyRow 5 none) ({ frames := 0, cells := 0, slots := 0, locals := 0 }) (Pre0 D k [(ra, .inl (k 0, 30, .inl f))] sz [.ref ra, .int 6, .int 0, .int 1]) (va_Qv (fun (f2 : (Nat → Int32)) => (∀ j : Nat, f j = (0 : Int32)) → ∀ j : Nat, f2 j = (0 : Int32)) (fun (f2 : (Nat → Int32)) tZ => Bw D k (va_A [(ra, .inl (k 0, 30, .inl f))] sz) [(ra, .inl (k 0, 30, .inl f2))] tZ) (va_A [(ra, .inl (k 0, 30, .inl f))] sz)) 0 0 (va_A [(ra, .inl (k 0, 30, .inl f))] sz) := by
  refine Met.ofW (cc := cX12_copyRow) (maxL := 5) (ret := none) (by decide +kernel) rfl ?_
  intro p e s m args below meth c s₁ B hml hv
  obtain ⟨rfl, hsz, hP, hK, hD0, hN⟩ := hv
  have hx := B.exec
  have hb := B.bytes
  have hr := B.returns
  have hts : ∀ w ∈ TT, w.before _ s = true := fun w h => atoms_spec (ws := ww yX12_copyRow cX12_copyRow 5 none) B.pre w (List.mem_cons_of_mem _ h)
  have hown : s.vm.findClass RX12 = some m.cls := findClass_of_methodNamed B.named
  have hlocks := B.notSynchronized
  subst hsz
  have hD := hD0.self (sz := s.heap.size)
  generalize hAe : va_A [(ra, .inl (k 0, 30, .inl f))] s.heap.size = A at hD ⊢
  have hA : ∀ q : Nat, s.heap.size ≤ q → A q := fun q h => by rw [← hAe]; exact Or.inr h
  have hS : va_S A s.heap s.heap [] := va_S.rf
  have hl := lv_entry ([.ref ra, .int 6, .int 0, .int 1]) (n := 5) (Nat.le_of_ble_eq_true rfl)
  rw [lg_entry_eq]
  generalize (lg_sl ([.ref ra, .int 6, .int 0, .int 1]) ++ List.replicate (5 - (lg_sl ([.ref ra, .int 6, .int 0, .int 1])).length) Slot.unset).toArray = ls at hl ⊢
  have hl : lv_has ls 5 [(0, .ref ra), (1, .int 6), (2, .int 0), (3, .int 1)] := hl
  refine lv_iconst (v := 0) hx hb dX12_copyRow_0 (by decide) ?_
  refine lv_istore (lv' := [(4, .int 0), (0, .ref ra), (1, .int 6), (2, .int 0), (3, .int 1)]) hx hb dX12_copyRow_1 hl (by decide) rfl (fun ls hl => ?_)
  refine loop_r (Wg := fun H locs ls => W p l e _ s m _ below meth c H locs _ _ _ (F0 m 3 ls [])) (fun n9 H locs ls => ∃ (i : Int32) (gf : Nat → Int32), n9 = (6 - i.toInt).toNat ∧ (0 ≤ i.toInt) ∧ (i.toInt ≤ 6) ∧ ((∀ j : Nat, f j = (0 : Int32)) → ∀ j : Nat, gf j = (0 : Int32)) ∧ va_P D vwCl [(ra, .inl (k 0, 30, .inl gf))] H ∧ va_D A [(ra, .inl (k 0, 30, .inl gf))] ∧ va_S A s.heap H locs ∧ lv_has ls 5 [(4, .int i), (0, .ref ra), (1, .int 6), (2, .int 0), (3, .int 1)]) (fun n9 H locs ls hI ih_1 => ?_) _ _ _ _ ⟨0, f, rfl, (show 0 ≤ 0 from by omega), (show 0 ≤ 6 from by omega), (fun h => h), hP.sub (ws' := [(ra, .inl (k 0, 30, .inl f))]) [0] rfl, hD.sub (ws' := [(ra, .inl (k 0, 30, .inl f))]) [0] (by decide) rfl, hS, lv_sub hl [0, 1, 2, 3, 4] rfl⟩
  clear hP hD hS hl
  obtain ⟨i, gf, en_2, hi1, hi2, hz, hP, hD, hS, hl⟩ := hI
  refine lv_iload hx hb dX12_copyRow_3 (lv_at hl 0 rfl) ?_
  refine lv_iload_n hx hb dX12_copyRow_5 rfl (lv_at hl 2 rfl) ?_
  refine lv_icmp_ge (tgt := 31) hx hb dX12_copyRow_6 (by decide) (fun h_3 => ?_) (fun h_3 => ?_)
  · skip
    have zh_3 : 6 ≤ i.toInt := z_le h_3
    have hP9 := hP.sub (ws' := [(ra, .inl (k 0, 30, .inl gf))]) [0] rfl
    have hD9 := hD.sub (ws' := [(ra, .inl (k 0, 30, .inl gf))]) [0] (by decide) rfl
    exact W.vret hx hb hr (fun tZ ht hW => ⟨⟨gf, rfl, hz, by rw [ht]; exact hP9, va_K.moved hW.alike hK, hD9⟩, hS.F ht⟩) hS.2.2 dX12_copyRow_31
  · skip
    have zh_3 : i.toInt < 6 := z_nle h_3
    refine lv_aload_n hx hb dX12_copyRow_9 rfl (lv_at hl 1 rfl) ?_
    refine lv_iload_n hx hb dX12_copyRow_10 rfl (lv_at hl 2 rfl) ?_
    refine lv_iload_n hx hb dX12_copyRow_11 rfl (lv_at hl 4 rfl) ?_
    refine lv_imul hx hb dX12_copyRow_12 ?_
    refine lv_topi (fun x_4 ex_4 => ?_)
    obtain rfl : x_4 = 6 := ex_4.trans (by decide)
    refine lv_iload hx hb dX12_copyRow_13 (lv_at hl 0 rfl) ?_
    refine lv_iadd hx hb dX12_copyRow_15 ?_
    refine lv_topi (fun x_5 ex_5 => ?_)
    have zx_5 : x_5.toInt = 6 + i.toInt := by rw [ex_5]; exact z_add rfl rfl (by omega) (by omega)
    refine lv_aload_n hx hb dX12_copyRow_16 rfl (lv_at hl 1 rfl) ?_
    refine lv_iload_n hx hb dX12_copyRow_17 rfl (lv_at hl 2 rfl) ?_
    refine lv_iload_n hx hb dX12_copyRow_18 rfl (lv_at hl 3 rfl) ?_
    refine lv_imul hx hb dX12_copyRow_19 ?_
    refine lv_topi (fun x_6 ex_6 => ?_)
    obtain rfl : x_6 = 0 := ex_6.trans (by decide)
    refine lv_iload hx hb dX12_copyRow_20 (lv_at hl 0 rfl) ?_
    refine lv_iadd hx hb dX12_copyRow_22 ?_
    refine lv_topi (fun x_7 ex_7 => ?_)
    have zx_7 : x_7.toInt = 0 + i.toInt := by rw [ex_7]; exact z_add rfl rfl (by omega) (by omega)
    refine va_iald hx hb hK hP 0 0 rfl rfl (z_in (by omega) (by omega)) dX12_copyRow_23 ?_
    refine lv_topi (fun x_8 ex_8 => ?_)
    refine va_iast hx hb hK hP hD hS 0 0 rfl rfl (z_in (by omega) (by omega)) dX12_copyRow_24 (fun H locs hP hD hS => ?_)
    have hP : va_P D vwCl [(ra, .inl (k 0, 30, .inl (upd gf x_5.toNatClampNeg x_8)))] H := hP
    have hD : va_D A [(ra, .inl (k 0, 30, .inl (upd gf x_5.toNatClampNeg x_8)))] := hD
    obtain ⟨x_9, ex_9⟩ : ∃ y : Int32, y = i + 1 := ⟨_, rfl⟩
    have zx_9 : x_9.toInt = i.toInt + 1 := by rw [ex_9]; exact z_add rfl rfl (by omega) (by omega)
    refine lv_iinc (v := x_9) (lv' := [(4, .int x_9), (0, .ref ra), (1, .int 6), (2, .int 0), (3, .int 1)]) hx hb dX12_copyRow_25 hl (k := 0) rfl (by rw [ex_9]; rfl) (by decide) rfl (fun ls hl => ?_)
    refine lv_goto (tgt := 3) hx hb dX12_copyRow_28 (by decide) ?_
    exact ih_1 _ _ _ _ (by omega) ⟨x_9, (upd gf x_5.toNatClampNeg x_8), rfl, (show 0 ≤ x_9.toInt from by omega), (show x_9.toInt ≤ 6 from by omega), (fun h => updx (hz h) (ex_8.trans (hz h _))), hP.sub (ws' := [(ra, .inl (k 0, 30, .inl (upd gf x_5.toNatClampNeg x_8)))]) [0] rfl, hD.sub (ws' := [(ra, .inl (k 0, 30, .inl (upd gf x_5.toNatClampNeg x_8)))]) [0] (by decide) rfl, hS, lv_sub hl [0, 1, 2, 3, 4] rfl⟩
set_option maxHeartbeats 4000000 in
set_option maxRecDepth 100000 in
theorem c_X12_copyRow_250_0_1 (l : Launch) (D : va_G) (k : Nat → ClassId) (ra : Nat) (f : Nat → Int32) (sz : Nat) : Met l yX12_copyRow (ww yX12_copyRow cX12_copyRow 5 none) ({ frames := 0, cells := 0, slots := 0, locals := 0 }) (Pre0 D k [(ra, .inl (k 0, 250, .inl f))] sz [.ref ra, .int 50, .int 0, .int 1]) (va_Qv (fun (f2 : (Nat → Int32)) => (∀ j : Nat, f j = (0 : Int32)) → ∀ j : Nat, f2 j = (0 : Int32)) (fun (f2 : (Nat → Int32)) tZ => Bw D k (va_A [(ra, .inl (k 0, 250, .inl f))] sz) [(ra, .inl (k 0, 250, .inl f2))] tZ) (va_A [(ra, .inl (k 0, 250, .inl f))] sz)) 0 0 (va_A [(ra, .inl (k 0, 250, .inl f))] sz) := by
  refine Met.ofW (cc := cX12_copyRow) (maxL := 5) (ret := none) (by decide +kernel) rfl ?_
  intro p e s m args below meth c s₁ B hml hv
  obtain ⟨rfl, hsz, hP, hK, hD0, hN⟩ := hv
  have hx := B.exec
  have hb := B.bytes
  have hr := B.returns
  have hts : ∀ w ∈ TT, w.before _ s = true := fun w h => atoms_spec (ws := ww yX12_copyRow cX12_copyRow 5 none) B.pre w (List.mem_cons_of_mem _ h)
  have hown : s.vm.findClass RX12 = some m.cls := findClass_of_methodNamed B.named
  have hlocks := B.notSynchronized
  subst hsz
  have hD := hD0.self (sz := s.heap.size)
  generalize hAe : va_A [(ra, .inl (k 0, 250, .inl f))] s.heap.size = A at hD ⊢
  have hA : ∀ q : Nat, s.heap.size ≤ q → A q := fun q h => by rw [← hAe]; exact Or.inr h
  have hS : va_S A s.heap s.heap [] := va_S.rf
  have hl := lv_entry ([.ref ra, .int 50, .int 0, .int 1]) (n := 5) (Nat.le_of_ble_eq_true rfl)
  rw [lg_entry_eq]
  generalize (lg_sl ([.ref ra, .int 50, .int 0, .int 1]) ++ List.replicate (5 - (lg_sl ([.ref ra, .int 50, .int 0, .int 1])).length) Slot.unset).toArray = ls at hl ⊢
  have hl : lv_has ls 5 [(0, .ref ra), (1, .int 50), (2, .int 0), (3, .int 1)] := hl
  refine lv_iconst (v := 0) hx hb dX12_copyRow_0 (by decide) ?_
  refine lv_istore (lv' := [(4, .int 0), (0, .ref ra), (1, .int 50), (2, .int 0), (3, .int 1)]) hx hb dX12_copyRow_1 hl (by decide) rfl (fun ls hl => ?_)
  refine loop_r (Wg := fun H locs ls => W p l e _ s m _ below meth c H locs _ _ _ (F0 m 3 ls [])) (fun n9 H locs ls => ∃ (i : Int32) (gf : Nat → Int32), n9 = (50 - i.toInt).toNat ∧ (0 ≤ i.toInt) ∧ (i.toInt ≤ 50) ∧ ((∀ j : Nat, f j = (0 : Int32)) → ∀ j : Nat, gf j = (0 : Int32)) ∧ va_P D vwCl [(ra, .inl (k 0, 250, .inl gf))] H ∧ va_D A [(ra, .inl (k 0, 250, .inl gf))] ∧ va_S A s.heap H locs ∧ lv_has ls 5 [(4, .int i), (0, .ref ra), (1, .int 50), (2, .int 0), (3, .int 1)]) (fun n9 H locs ls hI ih_1 => ?_) _ _ _ _ ⟨0, f, rfl, (show 0 ≤ 0 from by omega), (show 0 ≤ 50 from by omega), (fun h => h), hP.sub (ws' := [(ra, .inl (k 0, 250, .inl f))]) [0] rfl, hD.sub (ws' := [(ra, .inl (k 0, 250, .inl f))]) [0] (by decide) rfl, hS, lv_sub hl [0, 1, 2, 3, 4] rfl⟩
  clear hP hD hS hl
  obtain ⟨i, gf, en_2, hi1, hi2, hz, hP, hD, hS, hl⟩ := hI
  refine lv_iload hx hb dX12_copyRow_3 (lv_at hl 0 rfl) ?_
  refine lv_iload_n hx hb dX12_copyRow_5 rfl (lv_at hl 2 rfl) ?_
  refine lv_icmp_ge (tgt := 31) hx hb dX12_copyRow_6 (by decide) (fun h_3 => ?_) (fun h_3 => ?_)
  · skip
    have zh_3 : 50 ≤ i.toInt := z_le h_3
    have hP9 := hP.sub (ws' := [(ra, .inl (k 0, 250, .inl gf))]) [0] rfl
    have hD9 := hD.sub (ws' := [(ra, .inl (k 0, 250, .inl gf))]) [0] (by decide) rfl
    exact W.vret hx hb hr (fun tZ ht hW => ⟨⟨gf, rfl, hz, by rw [ht]; exact hP9, va_K.moved hW.alike hK, hD9⟩, hS.F ht⟩) hS.2.2 dX12_copyRow_31
  · skip
    have zh_3 : i.toInt < 50 := z_nle h_3
    refine lv_aload_n hx hb dX12_copyRow_9 rfl (lv_at hl 1 rfl) ?_
    refine lv_iload_n hx hb dX12_copyRow_10 rfl (lv_at hl 2 rfl) ?_
    refine lv_iload_n hx hb dX12_copyRow_11 rfl (lv_at hl 4 rfl) ?_
    refine lv_imul hx hb dX12_copyRow_12 ?_
    refine lv_topi (fun x_4 ex_4 => ?_)
    obtain rfl : x_4 = 50 := ex_4.trans (by decide)
    refine lv_iload hx hb dX12_copyRow_13 (lv_at hl 0 rfl) ?_
    refine lv_iadd hx hb dX12_copyRow_15 ?_
    refine lv_topi (fun x_5 ex_5 => ?_)
    have zx_5 : x_5.toInt = 50 + i.toInt := by rw [ex_5]; exact z_add rfl rfl (by omega) (by omega)
    refine lv_aload_n hx hb dX12_copyRow_16 rfl (lv_at hl 1 rfl) ?_
    refine lv_iload_n hx hb dX12_copyRow_17 rfl (lv_at hl 2 rfl) ?_
    refine lv_iload_n hx hb dX12_copyRow_18 rfl (lv_at hl 3 rfl) ?_
    refine lv_imul hx hb dX12_copyRow_19 ?_
    refine lv_topi (fun x_6 ex_6 => ?_)
    obtain rfl : x_6 = 0 := ex_6.trans (by decide)
    refine lv_iload hx hb dX12_copyRow_20 (lv_at hl 0 rfl) ?_
    refine lv_iadd hx hb dX12_copyRow_22 ?_
    refine lv_topi (fun x_7 ex_7 => ?_)
    have zx_7 : x_7.toInt = 0 + i.toInt := by rw [ex_7]; exact z_add rfl rfl (by omega) (by omega)
    refine va_iald hx hb hK hP 0 0 rfl rfl (z_in (by omega) (by omega)) dX12_copyRow_23 ?_
    refine lv_topi (fun x_8 ex_8 => ?_)
    refine va_iast hx hb hK hP hD hS 0 0 rfl rfl (z_in (by omega) (by omega)) dX12_copyRow_24 (fun H locs hP hD hS => ?_)
    have hP : va_P D vwCl [(ra, .inl (k 0, 250, .inl (upd gf x_5.toNatClampNeg x_8)))] H := hP
    have hD : va_D A [(ra, .inl (k 0, 250, .inl (upd gf x_5.toNatClampNeg x_8)))] := hD
    obtain ⟨x_9, ex_9⟩ : ∃ y : Int32, y = i + 1 := ⟨_, rfl⟩
    have zx_9 : x_9.toInt = i.toInt + 1 := by rw [ex_9]; exact z_add rfl rfl (by omega) (by omega)
    refine lv_iinc (v := x_9) (lv' := [(4, .int x_9), (0, .ref ra), (1, .int 50), (2, .int 0), (3, .int 1)]) hx hb dX12_copyRow_25 hl (k := 0) rfl (by rw [ex_9]; rfl) (by decide) rfl (fun ls hl => ?_)
    refine lv_goto (tgt := 3) hx hb dX12_copyRow_28 (by decide) ?_
    exact ih_1 _ _ _ _ (by omega) ⟨x_9, (upd gf x_5.toNatClampNeg x_8), rfl, (show 0 ≤ x_9.toInt from by omega), (show x_9.toInt ≤ 50 from by omega), (fun h => updx (hz h) (ex_8.trans (hz h _))), hP.sub (ws' := [(ra, .inl (k 0, 250, .inl (upd gf x_5.toNatClampNeg x_8)))]) [0] rfl, hD.sub (ws' := [(ra, .inl (k 0, 250, .inl (upd gf x_5.toNatClampNeg x_8)))]) [0] (by decide) rfl, hS, lv_sub hl [0, 1, 2, 3, 4] rfl⟩
set_option maxHeartbeats 4000000 in
set_option maxRecDepth 100000 in
theorem c_X12_copyRow_40_0_1 (l : Launch) (D : va_G) (k : Nat → ClassId) (ra : Nat) (f : Nat → Int32) (sz : Nat) : Met l yX12_copyRow (ww yX12_copyRow cX12_copyRow 5 none) ({ frames := 0, cells := 0, slots := 0, locals := 0 }) (Pre0 D k [(ra, .inl (k 0, 40, .inl f))] sz [.ref ra, .int 8, .int 0, .int 1]) (va_Qv (fun (f2 : (Nat → Int32)) => (∀ j : Nat, f j = (0 : Int32)) → ∀ j : Nat, f2 j = (0 : Int32)) (fun (f2 : (Nat → Int32)) tZ => Bw D k (va_A [(ra, .inl (k 0, 40, .inl f))] sz) [(ra, .inl (k 0, 40, .inl f2))] tZ) (va_A [(ra, .inl (k 0, 40, .inl f))] sz)) 0 0 (va_A [(ra, .inl (k 0, 40, .inl f))] sz) := by
  refine Met.ofW (cc := cX12_copyRow) (maxL := 5) (ret := none) (by decide +kernel) rfl ?_
  intro p e s m args below meth c s₁ B hml hv
  obtain ⟨rfl, hsz, hP, hK, hD0, hN⟩ := hv
  have hx := B.exec
  have hb := B.bytes
  have hr := B.returns
  have hts : ∀ w ∈ TT, w.before _ s = true := fun w h => atoms_spec (ws := ww yX12_copyRow cX12_copyRow 5 none) B.pre w (List.mem_cons_of_mem _ h)
  have hown : s.vm.findClass RX12 = some m.cls := findClass_of_methodNamed B.named
  have hlocks := B.notSynchronized
  subst hsz
  have hD := hD0.self (sz := s.heap.size)
  generalize hAe : va_A [(ra, .inl (k 0, 40, .inl f))] s.heap.size = A at hD ⊢
  have hA : ∀ q : Nat, s.heap.size ≤ q → A q := fun q h => by rw [← hAe]; exact Or.inr h
  have hS : va_S A s.heap s.heap [] := va_S.rf
  have hl := lv_entry ([.ref ra, .int 8, .int 0, .int 1]) (n := 5) (Nat.le_of_ble_eq_true rfl)
  rw [lg_entry_eq]
  generalize (lg_sl ([.ref ra, .int 8, .int 0, .int 1]) ++ List.replicate (5 - (lg_sl ([.ref ra, .int 8, .int 0, .int 1])).length) Slot.unset).toArray = ls at hl ⊢
  have hl : lv_has ls 5 [(0, .ref ra), (1, .int 8), (2, .int 0), (3, .int 1)] := hl
  refine lv_iconst (v := 0) hx hb dX12_copyRow_0 (by decide) ?_
  refine lv_istore (lv' := [(4, .int 0), (0, .ref ra), (1, .int 8), (2, .int 0), (3, .int 1)]) hx hb dX12_copyRow_1 hl (by decide) rfl (fun ls hl => ?_)
  refine loop_r (Wg := fun H locs ls => W p l e _ s m _ below meth c H locs _ _ _ (F0 m 3 ls [])) (fun n9 H locs ls => ∃ (i : Int32) (gf : Nat → Int32), n9 = (8 - i.toInt).toNat ∧ (0 ≤ i.toInt) ∧ (i.toInt ≤ 8) ∧ ((∀ j : Nat, f j = (0 : Int32)) → ∀ j : Nat, gf j = (0 : Int32)) ∧ va_P D vwCl [(ra, .inl (k 0, 40, .inl gf))] H ∧ va_D A [(ra, .inl (k 0, 40, .inl gf))] ∧ va_S A s.heap H locs ∧ lv_has ls 5 [(4, .int i), (0, .ref ra), (1, .int 8), (2, .int 0), (3, .int 1)]) (fun n9 H locs ls hI ih_1 => ?_) _ _ _ _ ⟨0, f, rfl, (show 0 ≤ 0 from by omega), (show 0 ≤ 8 from by omega), (fun h => h), hP.sub (ws' := [(ra, .inl (k 0, 40, .inl f))]) [0] rfl, hD.sub (ws' := [(ra, .inl (k 0, 40, .inl f))]) [0] (by decide) rfl, hS, lv_sub hl [0, 1, 2, 3, 4] rfl⟩
  clear hP hD hS hl
  obtain ⟨i, gf, en_2, hi1, hi2, hz, hP, hD, hS, hl⟩ := hI
  refine lv_iload hx hb dX12_copyRow_3 (lv_at hl 0 rfl) ?_
  refine lv_iload_n hx hb dX12_copyRow_5 rfl (lv_at hl 2 rfl) ?_
  refine lv_icmp_ge (tgt := 31) hx hb dX12_copyRow_6 (by decide) (fun h_3 => ?_) (fun h_3 => ?_)
  · skip
    have zh_3 : 8 ≤ i.toInt := z_le h_3
    have hP9 := hP.sub (ws' := [(ra, .inl (k 0, 40, .inl gf))]) [0] rfl
    have hD9 := hD.sub (ws' := [(ra, .inl (k 0, 40, .inl gf))]) [0] (by decide) rfl
    exact W.vret hx hb hr (fun tZ ht hW => ⟨⟨gf, rfl, hz, by rw [ht]; exact hP9, va_K.moved hW.alike hK, hD9⟩, hS.F ht⟩) hS.2.2 dX12_copyRow_31
  · skip
    have zh_3 : i.toInt < 8 := z_nle h_3
    refine lv_aload_n hx hb dX12_copyRow_9 rfl (lv_at hl 1 rfl) ?_
    refine lv_iload_n hx hb dX12_copyRow_10 rfl (lv_at hl 2 rfl) ?_
    refine lv_iload_n hx hb dX12_copyRow_11 rfl (lv_at hl 4 rfl) ?_
    refine lv_imul hx hb dX12_copyRow_12 ?_
    refine lv_topi (fun x_4 ex_4 => ?_)
    obtain rfl : x_4 = 8 := ex_4.trans (by decide)
    refine lv_iload hx hb dX12_copyRow_13 (lv_at hl 0 rfl) ?_
    refine lv_iadd hx hb dX12_copyRow_15 ?_
    refine lv_topi (fun x_5 ex_5 => ?_)
    have zx_5 : x_5.toInt = 8 + i.toInt := by rw [ex_5]; exact z_add rfl rfl (by omega) (by omega)
    refine lv_aload_n hx hb dX12_copyRow_16 rfl (lv_at hl 1 rfl) ?_
    refine lv_iload_n hx hb dX12_copyRow_17 rfl (lv_at hl 2 rfl) ?_
    refine lv_iload_n hx hb dX12_copyRow_18 rfl (lv_at hl 3 rfl) ?_
    refine lv_imul hx hb dX12_copyRow_19 ?_
    refine lv_topi (fun x_6 ex_6 => ?_)
    obtain rfl : x_6 = 0 := ex_6.trans (by decide)
    refine lv_iload hx hb dX12_copyRow_20 (lv_at hl 0 rfl) ?_
    refine lv_iadd hx hb dX12_copyRow_22 ?_
    refine lv_topi (fun x_7 ex_7 => ?_)
    have zx_7 : x_7.toInt = 0 + i.toInt := by rw [ex_7]; exact z_add rfl rfl (by omega) (by omega)
    refine va_iald hx hb hK hP 0 0 rfl rfl (z_in (by omega) (by omega)) dX12_copyRow_23 ?_
    refine lv_topi (fun x_8 ex_8 => ?_)
    refine va_iast hx hb hK hP hD hS 0 0 rfl rfl (z_in (by omega) (by omega)) dX12_copyRow_24 (fun H locs hP hD hS => ?_)
    have hP : va_P D vwCl [(ra, .inl (k 0, 40, .inl (upd gf x_5.toNatClampNeg x_8)))] H := hP
    have hD : va_D A [(ra, .inl (k 0, 40, .inl (upd gf x_5.toNatClampNeg x_8)))] := hD
    obtain ⟨x_9, ex_9⟩ : ∃ y : Int32, y = i + 1 := ⟨_, rfl⟩
    have zx_9 : x_9.toInt = i.toInt + 1 := by rw [ex_9]; exact z_add rfl rfl (by omega) (by omega)
    refine lv_iinc (v := x_9) (lv' := [(4, .int x_9), (0, .ref ra), (1, .int 8), (2, .int 0), (3, .int 1)]) hx hb dX12_copyRow_25 hl (k := 0) rfl (by rw [ex_9]; rfl) (by decide) rfl (fun ls hl => ?_)
    refine lv_goto (tgt := 3) hx hb dX12_copyRow_28 (by decide) ?_
    exact ih_1 _ _ _ _ (by omega) ⟨x_9, (upd gf x_5.toNatClampNeg x_8), rfl, (show 0 ≤ x_9.toInt from by omega), (show x_9.toInt ≤ 8 from by omega), (fun h => updx (hz h) (ex_8.trans (hz h _))), hP.sub (ws' := [(ra, .inl (k 0, 40, .inl (upd gf x_5.toNatClampNeg x_8)))]) [0] rfl, hD.sub (ws' := [(ra, .inl (k 0, 40, .inl (upd gf x_5.toNatClampNeg x_8)))]) [0] (by decide) rfl, hS, lv_sub hl [0, 1, 2, 3, 4] rfl⟩
set_option maxHeartbeats 4000000 in
set_option maxRecDepth 100000 in
theorem c_X12_copyRow_120_0_1 (l : Launch) (D : va_G) (k : Nat → ClassId) (ra : Nat) (f : Nat → Int32) (sz : Nat) : Met l yX12_copyRow (ww yX12_copyRow cX12_copyRow 5 none) ({ frames := 0, cells := 0, slots := 0, locals := 0 }) (Pre0 D k [(ra, .inl (k 0, 120, .inl f))] sz [.ref ra, .int 24, .int 0, .int 1]) (va_Qv (fun (f2 : (Nat → Int32)) => (∀ j : Nat, f j = (0 : Int32)) → ∀ j : Nat, f2 j = (0 : Int32)) (fun (f2 : (Nat → Int32)) tZ => Bw D k (va_A [(ra, .inl (k 0, 120, .inl f))] sz) [(ra, .inl (k 0, 120, .inl f2))] tZ) (va_A [(ra, .inl (k 0, 120, .inl f))] sz)) 0 0 (va_A [(ra, .inl (k 0, 120, .inl f))] sz) := by
  refine Met.ofW (cc := cX12_copyRow) (maxL := 5) (ret := none) (by decide +kernel) rfl ?_
  intro p e s m args below meth c s₁ B hml hv
  obtain ⟨rfl, hsz, hP, hK, hD0, hN⟩ := hv
  have hx := B.exec
  have hb := B.bytes
  have hr := B.returns
  have hts : ∀ w ∈ TT, w.before _ s = true := fun w h => atoms_spec (ws := ww yX12_copyRow cX12_copyRow 5 none) B.pre w (List.mem_cons_of_mem _ h)
  have hown : s.vm.findClass RX12 = some m.cls := findClass_of_methodNamed B.named
  have hlocks := B.notSynchronized
  subst hsz
  have hD := hD0.self (sz := s.heap.size)
  generalize hAe : va_A [(ra, .inl (k 0, 120, .inl f))] s.heap.size = A at hD ⊢
  have hA : ∀ q : Nat, s.heap.size ≤ q → A q := fun q h => by rw [← hAe]; exact Or.inr h
  have hS : va_S A s.heap s.heap [] := va_S.rf
  have hl := lv_entry ([.ref ra, .int 24, .int 0, .int 1]) (n := 5) (Nat.le_of_ble_eq_true rfl)
  rw [lg_entry_eq]
  generalize (lg_sl ([.ref ra, .int 24, .int 0, .int 1]) ++ List.replicate (5 - (lg_sl ([.ref ra, .int 24, .int 0, .int 1])).length) Slot.unset).toArray = ls at hl ⊢
  have hl : lv_has ls 5 [(0, .ref ra), (1, .int 24), (2, .int 0), (3, .int 1)] := hl
  refine lv_iconst (v := 0) hx hb dX12_copyRow_0 (by decide) ?_
  refine lv_istore (lv' := [(4, .int 0), (0, .ref ra), (1, .int 24), (2, .int 0), (3, .int 1)]) hx hb dX12_copyRow_1 hl (by decide) rfl (fun ls hl => ?_)
  refine loop_r (Wg := fun H locs ls => W p l e _ s m _ below meth c H locs _ _ _ (F0 m 3 ls [])) (fun n9 H locs ls => ∃ (i : Int32) (gf : Nat → Int32), n9 = (24 - i.toInt).toNat ∧ (0 ≤ i.toInt) ∧ (i.toInt ≤ 24) ∧ ((∀ j : Nat, f j = (0 : Int32)) → ∀ j : Nat, gf j = (0 : Int32)) ∧ va_P D vwCl [(ra, .inl (k 0, 120, .inl gf))] H ∧ va_D A [(ra, .inl (k 0, 120, .inl gf))] ∧ va_S A s.heap H locs ∧ lv_has ls 5 [(4, .int i), (0, .ref ra), (1, .int 24), (2, .int 0), (3, .int 1)]) (fun n9 H locs ls hI ih_1 => ?_) _ _ _ _ ⟨0, f, rfl, (show 0 ≤ 0 from by omega), (show 0 ≤ 24 from by omega), (fun h => h), hP.sub (ws' := [(ra, .inl (k 0, 120, .inl f))]) [0] rfl, hD.sub (ws' := [(ra, .inl (k 0, 120, .inl f))]) [0] (by decide) rfl, hS, lv_sub hl [0, 1, 2, 3, 4] rfl⟩
  clear hP hD hS hl
  obtain ⟨i, gf, en_2, hi1, hi2, hz, hP, hD, hS, hl⟩ := hI
  refine lv_iload hx hb dX12_copyRow_3 (lv_at hl 0 rfl) ?_
  refine lv_iload_n hx hb dX12_copyRow_5 rfl (lv_at hl 2 rfl) ?_
  refine lv_icmp_ge (tgt := 31) hx hb dX12_copyRow_6 (by decide) (fun h_3 => ?_) (fun h_3 => ?_)
  · skip
    have zh_3 : 24 ≤ i.toInt := z_le h_3
    have hP9 := hP.sub (ws' := [(ra, .inl (k 0, 120, .inl gf))]) [0] rfl
    have hD9 := hD.sub (ws' := [(ra, .inl (k 0, 120, .inl gf))]) [0] (by decide) rfl
    exact W.vret hx hb hr (fun tZ ht hW => ⟨⟨gf, rfl, hz, by rw [ht]; exact hP9, va_K.moved hW.alike hK, hD9⟩, hS.F ht⟩) hS.2.2 dX12_copyRow_31
  · skip
    have zh_3 : i.toInt < 24 := z_nle h_3
    refine lv_aload_n hx hb dX12_copyRow_9 rfl (lv_at hl 1 rfl) ?_
    refine lv_iload_n hx hb dX12_copyRow_10 rfl (lv_at hl 2 rfl) ?_
    refine lv_iload_n hx hb dX12_copyRow_11 rfl (lv_at hl 4 rfl) ?_
    refine lv_imul hx hb dX12_copyRow_12 ?_
    refine lv_topi (fun x_4 ex_4 => ?_)
    obtain rfl : x_4 = 24 := ex_4.trans (by decide)
    refine lv_iload hx hb dX12_copyRow_13 (lv_at hl 0 rfl) ?_
    refine lv_iadd hx hb dX12_copyRow_15 ?_
    refine lv_topi (fun x_5 ex_5 => ?_)
    have zx_5 : x_5.toInt = 24 + i.toInt := by rw [ex_5]; exact z_add rfl rfl (by omega) (by omega)
    refine lv_aload_n hx hb dX12_copyRow_16 rfl (lv_at hl 1 rfl) ?_
    refine lv_iload_n hx hb dX12_copyRow_17 rfl (lv_at hl 2 rfl) ?_
    refine lv_iload_n hx hb dX12_copyRow_18 rfl (lv_at hl 3 rfl) ?_
    refine lv_imul hx hb dX12_copyRow_19 ?_
    refine lv_topi (fun x_6 ex_6 => ?_)
    obtain rfl : x_6 = 0 := ex_6.trans (by decide)
    refine lv_iload hx hb dX12_copyRow_20 (lv_at hl 0 rfl) ?_
    refine lv_iadd hx hb dX12_copyRow_22 ?_
    refine lv_topi (fun x_7 ex_7 => ?_)
    have zx_7 : x_7.toInt = 0 + i.toInt := by rw [ex_7]; exact z_add rfl rfl (by omega) (by omega)
    refine va_iald hx hb hK hP 0 0 rfl rfl (z_in (by omega) (by omega)) dX12_copyRow_23 ?_
    refine lv_topi (fun x_8 ex_8 => ?_)
    refine va_iast hx hb hK hP hD hS 0 0 rfl rfl (z_in (by omega) (by omega)) dX12_copyRow_24 (fun H locs hP hD hS => ?_)
    have hP : va_P D vwCl [(ra, .inl (k 0, 120, .inl (upd gf x_5.toNatClampNeg x_8)))] H := hP
    have hD : va_D A [(ra, .inl (k 0, 120, .inl (upd gf x_5.toNatClampNeg x_8)))] := hD
    obtain ⟨x_9, ex_9⟩ : ∃ y : Int32, y = i + 1 := ⟨_, rfl⟩
    have zx_9 : x_9.toInt = i.toInt + 1 := by rw [ex_9]; exact z_add rfl rfl (by omega) (by omega)
    refine lv_iinc (v := x_9) (lv' := [(4, .int x_9), (0, .ref ra), (1, .int 24), (2, .int 0), (3, .int 1)]) hx hb dX12_copyRow_25 hl (k := 0) rfl (by rw [ex_9]; rfl) (by decide) rfl (fun ls hl => ?_)
    refine lv_goto (tgt := 3) hx hb dX12_copyRow_28 (by decide) ?_
    exact ih_1 _ _ _ _ (by omega) ⟨x_9, (upd gf x_5.toNatClampNeg x_8), rfl, (show 0 ≤ x_9.toInt from by omega), (show x_9.toInt ≤ 24 from by omega), (fun h => updx (hz h) (ex_8.trans (hz h _))), hP.sub (ws' := [(ra, .inl (k 0, 120, .inl (upd gf x_5.toNatClampNeg x_8)))]) [0] rfl, hD.sub (ws' := [(ra, .inl (k 0, 120, .inl (upd gf x_5.toNatClampNeg x_8)))]) [0] (by decide) rfl, hS, lv_sub hl [0, 1, 2, 3, 4] rfl⟩
set_option maxHeartbeats 4000000 in
set_option maxRecDepth 100000 in
theorem c_X12_copyRow_20_0_1 (l : Launch) (D : va_G) (k : Nat → ClassId) (ra : Nat) (f : Nat → Int32) (sz : Nat) : Met l yX12_copyRow (ww yX12_copyRow cX12_copyRow 5 none) ({ frames := 0, cells := 0, slots := 0, locals := 0 }) (Pre0 D k [(ra, .inl (k 0, 20, .inl f))] sz [.ref ra, .int 4, .int 0, .int 1]) (va_Qv (fun (f2 : (Nat → Int32)) => (∀ j : Nat, f j = (0 : Int32)) → ∀ j : Nat, f2 j = (0 : Int32)) (fun (f2 : (Nat → Int32)) tZ => Bw D k (va_A [(ra, .inl (k 0, 20, .inl f))] sz) [(ra, .inl (k 0, 20, .inl f2))] tZ) (va_A [(ra, .inl (k 0, 20, .inl f))] sz)) 0 0 (va_A [(ra, .inl (k 0, 20, .inl f))] sz) := by
  refine Met.ofW (cc := cX12_copyRow) (maxL := 5) (ret := none) (by decide +kernel) rfl ?_
  intro p e s m args below meth c s₁ B hml hv
  obtain ⟨rfl, hsz, hP, hK, hD0, hN⟩ := hv
  have hx := B.exec
  have hb := B.bytes
  have hr := B.returns
  have hts : ∀ w ∈ TT, w.before _ s = true := fun w h => atoms_spec (ws := ww yX12_copyRow cX12_copyRow 5 none) B.pre w (List.mem_cons_of_mem _ h)
  have hown : s.vm.findClass RX12 = some m.cls := findClass_of_methodNamed B.named
  have hlocks := B.notSynchronized
  subst hsz
  have hD := hD0.self (sz := s.heap.size)
  generalize hAe : va_A [(ra, .inl (k 0, 20, .inl f))] s.heap.size = A at hD ⊢
  have hA : ∀ q : Nat, s.heap.size ≤ q → A q := fun q h => by rw [← hAe]; exact Or.inr h
  have hS : va_S A s.heap s.heap [] := va_S.rf
  have hl := lv_entry ([.ref ra, .int 4, .int 0, .int 1]) (n := 5) (Nat.le_of_ble_eq_true rfl)
  rw [lg_entry_eq]
  generalize (lg_sl ([.ref ra, .int 4, .int 0, .int 1]) ++ List.replicate (5 - (lg_sl ([.ref ra, .int 4, .int 0, .int 1])).length) Slot.unset).toArray = ls at hl ⊢
  have hl : lv_has ls 5 [(0, .ref ra), (1, .int 4), (2, .int 0), (3, .int 1)] := hl
  refine lv_iconst (v := 0) hx hb dX12_copyRow_0 (by decide) ?_
  refine lv_istore (lv' := [(4, .int 0), (0, .ref ra), (1, .int 4), (2, .int 0), (3, .int 1)]) hx hb dX12_copyRow_1 hl (by decide) rfl (fun ls hl => ?_)
  refine loop_r (Wg := fun H locs ls => W p l e _ s m _ below meth c H locs _ _ _ (F0 m 3 ls [])) (fun n9 H locs ls => ∃ (i : Int32) (gf : Nat → Int32), n9 = (4 - i.toInt).toNat ∧ (0 ≤ i.toInt) ∧ (i.toInt ≤ 4) ∧ ((∀ j : Nat, f j = (0 : Int32)) → ∀ j : Nat, gf j = (0 : Int32)) ∧ va_P D vwCl [(ra, .inl (k 0, 20, .inl gf))] H ∧ va_D A [(ra, .inl (k 0, 20, .inl gf))] ∧ va_S A s.heap H locs ∧ lv_has ls 5 [(4, .int i), (0, .ref ra), (1, .int 4), (2, .int 0), (3, .int 1)]) (fun n9 H locs ls hI ih_1 => ?_) _ _ _ _ ⟨0, f, rfl, (show 0 ≤ 0 from by omega), (show 0 ≤ 4 from by omega), (fun h => h), hP.sub (ws' := [(ra, .inl (k 0, 20, .inl f))]) [0] rfl, hD.sub (ws' := [(ra, .inl (k 0, 20, .inl f))]) [0] (by decide) rfl, hS, lv_sub hl [0, 1, 2, 3, 4] rfl⟩
  clear hP hD hS hl
  obtain ⟨i, gf, en_2, hi1, hi2, hz, hP, hD, hS, hl⟩ := hI
  refine lv_iload hx hb dX12_copyRow_3 (lv_at hl 0 rfl) ?_
  refine lv_iload_n hx hb dX12_copyRow_5 rfl (lv_at hl 2 rfl) ?_
  refine lv_icmp_ge (tgt := 31) hx hb dX12_copyRow_6 (by decide) (fun h_3 => ?_) (fun h_3 => ?_)
  · skip
    have zh_3 : 4 ≤ i.toInt := z_le h_3
    have hP9 := hP.sub (ws' := [(ra, .inl (k 0, 20, .inl gf))]) [0] rfl
    have hD9 := hD.sub (ws' := [(ra, .inl (k 0, 20, .inl gf))]) [0] (by decide) rfl
    exact W.vret hx hb hr (fun tZ ht hW => ⟨⟨gf, rfl, hz, by rw [ht]; exact hP9, va_K.moved hW.alike hK, hD9⟩, hS.F ht⟩) hS.2.2 dX12_copyRow_31
  · skip
    have zh_3 : i.toInt < 4 := z_nle h_3
    refine lv_aload_n hx hb dX12_copyRow_9 rfl (lv_at hl 1 rfl) ?_
    refine lv_iload_n hx hb dX12_copyRow_10 rfl (lv_at hl 2 rfl) ?_
    refine lv_iload_n hx hb dX12_copyRow_11 rfl (lv_at hl 4 rfl) ?_
    refine lv_imul hx hb dX12_copyRow_12 ?_
    refine lv_topi (fun x_4 ex_4 => ?_)
    obtain rfl : x_4 = 4 := ex_4.trans (by decide)
    refine lv_iload hx hb dX12_copyRow_13 (lv_at hl 0 rfl) ?_
    refine lv_iadd hx hb dX12_copyRow_15 ?_
    refine lv_topi (fun x_5 ex_5 => ?_)
    have zx_5 : x_5.toInt = 4 + i.toInt := by rw [ex_5]; exact z_add rfl rfl (by omega) (by omega)
    refine lv_aload_n hx hb dX12_copyRow_16 rfl (lv_at hl 1 rfl) ?_
    refine lv_iload_n hx hb dX12_copyRow_17 rfl (lv_at hl 2 rfl) ?_
    refine lv_iload_n hx hb dX12_copyRow_18 rfl (lv_at hl 3 rfl) ?_
    refine lv_imul hx hb dX12_copyRow_19 ?_
    refine lv_topi (fun x_6 ex_6 => ?_)
    obtain rfl : x_6 = 0 := ex_6.trans (by decide)
    refine lv_iload hx hb dX12_copyRow_20 (lv_at hl 0 rfl) ?_
    refine lv_iadd hx hb dX12_copyRow_22 ?_
    refine lv_topi (fun x_7 ex_7 => ?_)
    have zx_7 : x_7.toInt = 0 + i.toInt := by rw [ex_7]; exact z_add rfl rfl (by omega) (by omega)
    refine va_iald hx hb hK hP 0 0 rfl rfl (z_in (by omega) (by omega)) dX12_copyRow_23 ?_
    refine lv_topi (fun x_8 ex_8 => ?_)
    refine va_iast hx hb hK hP hD hS 0 0 rfl rfl (z_in (by omega) (by omega)) dX12_copyRow_24 (fun H locs hP hD hS => ?_)
    have hP : va_P D vwCl [(ra, .inl (k 0, 20, .inl (upd gf x_5.toNatClampNeg x_8)))] H := hP
    have hD : va_D A [(ra, .inl (k 0, 20, .inl (upd gf x_5.toNatClampNeg x_8)))] := hD
    obtain ⟨x_9, ex_9⟩ : ∃ y : Int32, y = i + 1 := ⟨_, rfl⟩
    have zx_9 : x_9.toInt = i.toInt + 1 := by rw [ex_9]; exact z_add rfl rfl (by omega) (by omega)
    refine lv_iinc (v := x_9) (lv' := [(4, .int x_9), (0, .ref ra), (1, .int 4), (2, .int 0), (3, .int 1)]) hx hb dX12_copyRow_25 hl (k := 0) rfl (by rw [ex_9]; rfl) (by decide) rfl (fun ls hl => ?_)
    refine lv_goto (tgt := 3) hx hb dX12_copyRow_28 (by decide) ?_
    exact ih_1 _ _ _ _ (by omega) ⟨x_9, (upd gf x_5.toNatClampNeg x_8), rfl, (show 0 ≤ x_9.toInt from by omega), (show x_9.toInt ≤ 4 from by omega), (fun h => updx (hz h) (ex_8.trans (hz h _))), hP.sub (ws' := [(ra, .inl (k 0, 20, .inl (upd gf x_5.toNatClampNeg x_8)))]) [0] rfl, hD.sub (ws' := [(ra, .inl (k 0, 20, .inl (upd gf x_5.toNatClampNeg x_8)))]) [0] (by decide) rfl, hS, lv_sub hl [0, 1, 2, 3, 4] rfl⟩
set_option maxHeartbeats 4000000 in
set_option maxRecDepth 100000 in
theorem c_X12_copyRow_600_0_1 (l : Launch) (D : va_G) (k : Nat → ClassId) (ra : Nat) (f : Nat → Int32) (sz : Nat) : Met l yX12_copyRow (ww yX12_copyRow cX12_copyRow 5 none) ({ frames := 0, cells := 0, slots := 0, locals := 0 }) (Pre0 D k [(ra, .inl (k 0, 600, .inl f))] sz [.ref ra, .int 120, .int 0, .int 1]) (va_Qv (fun (f2 : (Nat → Int32)) => (∀ j : Nat, f j = (0 : Int32)) → ∀ j : Nat, f2 j = (0 : Int32)) (fun (f2 : (Nat → Int32)) tZ => Bw D k (va_A [(ra, .inl (k 0, 600, .inl f))] sz) [(ra, .inl (k 0, 600, .inl f2))] tZ) (va_A [(ra, .inl (k 0, 600, .inl f))] sz)) 0 0 (va_A [(ra, .inl (k 0, 600, .inl f))] sz) := by
  refine Met.ofW (cc := cX12_copyRow) (maxL := 5) (ret := none) (by decide +kernel) rfl ?_
  intro p e s m args below meth c s₁ B hml hv
  obtain ⟨rfl, hsz, hP, hK, hD0, hN⟩ := hv
  have hx := B.exec
  have hb := B.bytes
  have hr := B.returns
  have hts : ∀ w ∈ TT, w.before _ s = true := fun w h => atoms_spec (ws := ww yX12_copyRow cX12_copyRow 5 none) B.pre w (List.mem_cons_of_mem _ h)
  have hown : s.vm.findClass RX12 = some m.cls := findClass_of_methodNamed B.named
  have hlocks := B.notSynchronized
  subst hsz
  have hD := hD0.self (sz := s.heap.size)
  generalize hAe : va_A [(ra, .inl (k 0, 600, .inl f))] s.heap.size = A at hD ⊢
  have hA : ∀ q : Nat, s.heap.size ≤ q → A q := fun q h => by rw [← hAe]; exact Or.inr h
  have hS : va_S A s.heap s.heap [] := va_S.rf
  have hl := lv_entry ([.ref ra, .int 120, .int 0, .int 1]) (n := 5) (Nat.le_of_ble_eq_true rfl)
  rw [lg_entry_eq]
  generalize (lg_sl ([.ref ra, .int 120, .int 0, .int 1]) ++ List.replicate (5 - (lg_sl ([.ref ra, .int 120, .int 0, .int 1])).length) Slot.unset).toArray = ls at hl ⊢
  have hl : lv_has ls 5 [(0, .ref ra), (1, .int 120), (2, .int 0), (3, .int 1)] := hl
  refine lv_iconst (v := 0) hx hb dX12_copyRow_0 (by decide) ?_
  refine lv_istore (lv' := [(4, .int 0), (0, .ref ra), (1, .int 120), (2, .int 0), (3, .int 1)]) hx hb dX12_copyRow_1 hl (by decide) rfl (fun ls hl => ?_)
  refine loop_r (Wg := fun H locs ls => W p l e _ s m _ below meth c H locs _ _ _ (F0 m 3 ls [])) (fun n9 H locs ls => ∃ (i : Int32) (gf : Nat → Int32), n9 = (120 - i.toInt).toNat ∧ (0 ≤ i.toInt) ∧ (i.toInt ≤ 120) ∧ ((∀ j : Nat, f j = (0 : Int32)) → ∀ j : Nat, gf j = (0 : Int32)) ∧ va_P D vwCl [(ra, .inl (k 0, 600, .inl gf))] H ∧ va_D A [(ra, .inl (k 0, 600, .inl gf))] ∧ va_S A s.heap H locs ∧ lv_has ls 5 [(4, .int i), (0, .ref ra), (1, .int 120), (2, .int 0), (3, .int 1)]) (fun n9 H locs ls hI ih_1 => ?_) _ _ _ _ ⟨0, f, rfl, (show 0 ≤ 0 from by omega), (show 0 ≤ 120 from by omega), (fun h => h), hP.sub (ws' := [(ra, .inl (k 0, 600, .inl f))]) [0] rfl, hD.sub (ws' := [(ra, .inl (k 0, 600, .inl f))]) [0] (by decide) rfl, hS, lv_sub hl [0, 1, 2, 3, 4] rfl⟩
  clear hP hD hS hl
  obtain ⟨i, gf, en_2, hi1, hi2, hz, hP, hD, hS, hl⟩ := hI
  refine lv_iload hx hb dX12_copyRow_3 (lv_at hl 0 rfl) ?_
  refine lv_iload_n hx hb dX12_copyRow_5 rfl (lv_at hl 2 rfl) ?_
  refine lv_icmp_ge (tgt := 31) hx hb dX12_copyRow_6 (by decide) (fun h_3 => ?_) (fun h_3 => ?_)
  · skip
    have zh_3 : 120 ≤ i.toInt := z_le h_3
    have hP9 := hP.sub (ws' := [(ra, .inl (k 0, 600, .inl gf))]) [0] rfl
    have hD9 := hD.sub (ws' := [(ra, .inl (k 0, 600, .inl gf))]) [0] (by decide) rfl
    exact W.vret hx hb hr (fun tZ ht hW => ⟨⟨gf, rfl, hz, by rw [ht]; exact hP9, va_K.moved hW.alike hK, hD9⟩, hS.F ht⟩) hS.2.2 dX12_copyRow_31
  · skip
    have zh_3 : i.toInt < 120 := z_nle h_3
    refine lv_aload_n hx hb dX12_copyRow_9 rfl (lv_at hl 1 rfl) ?_
    refine lv_iload_n hx hb dX12_copyRow_10 rfl (lv_at hl 2 rfl) ?_
    refine lv_iload_n hx hb dX12_copyRow_11 rfl (lv_at hl 4 rfl) ?_
    refine lv_imul hx hb dX12_copyRow_12 ?_
    refine lv_topi (fun x_4 ex_4 => ?_)
    obtain rfl : x_4 = 120 := ex_4.trans (by decide)
    refine lv_iload hx hb dX12_copyRow_13 (lv_at hl 0 rfl) ?_
    refine lv_iadd hx hb dX12_copyRow_15 ?_
    refine lv_topi (fun x_5 ex_5 => ?_)
    have zx_5 : x_5.toInt = 120 + i.toInt := by rw [ex_5]; exact z_add rfl rfl (by omega) (by omega)
    refine lv_aload_n hx hb dX12_copyRow_16 rfl (lv_at hl 1 rfl) ?_
    refine lv_iload_n hx hb dX12_copyRow_17 rfl (lv_at hl 2 rfl) ?_
    refine lv_iload_n hx hb dX12_copyRow_18 rfl (lv_at hl 3 rfl) ?_
    refine lv_imul hx hb dX12_copyRow_19 ?_
    refine lv_topi (fun x_6 ex_6 => ?_)
    obtain rfl : x_6 = 0 := ex_6.trans (by decide)
    refine lv_iload hx hb dX12_copyRow_20 (lv_at hl 0 rfl) ?_
    refine lv_iadd hx hb dX12_copyRow_22 ?_
    refine lv_topi (fun x_7 ex_7 => ?_)
    have zx_7 : x_7.toInt = 0 + i.toInt := by rw [ex_7]; exact z_add rfl rfl (by omega) (by omega)
    refine va_iald hx hb hK hP 0 0 rfl rfl (z_in (by omega) (by omega)) dX12_copyRow_23 ?_
    refine lv_topi (fun x_8 ex_8 => ?_)
    refine va_iast hx hb hK hP hD hS 0 0 rfl rfl (z_in (by omega) (by omega)) dX12_copyRow_24 (fun H locs hP hD hS => ?_)
    have hP : va_P D vwCl [(ra, .inl (k 0, 600, .inl (upd gf x_5.toNatClampNeg x_8)))] H := hP
    have hD : va_D A [(ra, .inl (k 0, 600, .inl (upd gf x_5.toNatClampNeg x_8)))] := hD
    obtain ⟨x_9, ex_9⟩ : ∃ y : Int32, y = i + 1 := ⟨_, rfl⟩
    have zx_9 : x_9.toInt = i.toInt + 1 := by rw [ex_9]; exact z_add rfl rfl (by omega) (by omega)
    refine lv_iinc (v := x_9) (lv' := [(4, .int x_9), (0, .ref ra), (1, .int 120), (2, .int 0), (3, .int 1)]) hx hb dX12_copyRow_25 hl (k := 0) rfl (by rw [ex_9]; rfl) (by decide) rfl (fun ls hl => ?_)
    refine lv_goto (tgt := 3) hx hb dX12_copyRow_28 (by decide) ?_
    exact ih_1 _ _ _ _ (by omega) ⟨x_9, (upd gf x_5.toNatClampNeg x_8), rfl, (show 0 ≤ x_9.toInt from by omega), (show x_9.toInt ≤ 120 from by omega), (fun h => updx (hz h) (ex_8.trans (hz h _))), hP.sub (ws' := [(ra, .inl (k 0, 600, .inl (upd gf x_5.toNatClampNeg x_8)))]) [0] rfl, hD.sub (ws' := [(ra, .inl (k 0, 600, .inl (upd gf x_5.toNatClampNeg x_8)))]) [0] (by decide) rfl, hS, lv_sub hl [0, 1, 2, 3, 4] rfl⟩
set_option maxHeartbeats 4000000 in
set_option maxRecDepth 100000 in
theorem c_X12_copyTown_0_1 (l : Launch) (D : va_G) (k : Nat → ClassId) (mo : Nat) (m1 : Nat) (m2 : Nat) (m3 : Nat) (m4 : Nat) (m5 : Nat) (m16 : Nat) (m17 : Nat) (m18 : Nat) (m19 : Nat) (m20 : Nat) (m21 : Nat) (m22 : Nat) (m23 : Nat) (m25 : Nat) (m26 : Nat) (m27 : Nat) (m28 : Nat) (m29 : Nat) (m31 : Nat) (m32 : Nat) (m33 : Nat) (m37 : Nat) (m38 : Nat) (m39 : Nat) (m40 : Nat) (f16 : Nat → Int32) (f17 : Nat → Int32) (f18 : Nat → Int32) (f19 : Nat → Int32) (f20 : Nat → Int32) (f21 : Nat → Int32) (f22 : Nat → Int32) (sz : Nat) : Met l yX12_copyTown (ww yX12_copyTown cX12_copyTown 3 none) ({ frames := 1, cells := 0, slots := 0, locals := 24 }) (Pre0 D k [(mo, .inr (12, [.int 0, .ref m1, .ref m2, .ref m3, .ref m4, .ref m5, .int 0, .int 0, .int 0, .int 0, .int 0, .long 0, .int 0, .int 0, .int 0, .int (-1), .ref m16, .ref m17, .ref m18, .ref m19, .ref m20, .ref m21, .ref m22, .ref m23, .int 0, .ref m25, .ref m26, .ref m27, .ref m28, .ref m29, .int 0, .ref m31, .ref m32, .ref m33, .int 0, .int 0, .int 0, .ref m37, .ref m38, .ref m39, .ref m40, .long 0])), (m16, .inl (k 0, 5, .inl f16)), (m17, .inl (k 0, 30, .inl f17)), (m18, .inl (k 0, 250, .inl f18)), (m19, .inl (k 0, 40, .inl f19)), (m20, .inl (k 0, 120, .inl f20)), (m21, .inl (k 0, 20, .inl f21)), (m22, .inl (k 0, 600, .inl f22))] sz [.ref mo, .int 0, .int 1]) (va_Qv (fun (u : (Nat → Int32) × (Nat → Int32) × (Nat → Int32) × (Nat → Int32) × (Nat → Int32) × (Nat → Int32) × (Nat → Int32)) => match u with | (o16, o17, o18, o19, o20, o21, o22) => (∀ j : Nat, f16 j = (0 : Int32)) → ∀ j : Nat, o16 j = (0 : Int32)) (fun (u : (Nat → Int32) × (Nat → Int32) × (Nat → Int32) × (Nat → Int32) × (Nat → Int32) × (Nat → Int32) × (Nat → Int32)) tZ => match u with | (o16, o17, o18, o19, o20, o21, o22) => Bw D k (va_A [(mo, .inr (12, [.int 0, .ref m1, .ref m2, .ref m3, .ref m4, .ref m5, .int 0, .int 0, .int 0, .int 0, .int 0, .long 0, .int 0, .int 0, .int 0, .int (-1), .ref m16, .ref m17, .ref m18, .ref m19, .ref m20, .ref m21, .ref m22, .ref m23, .int 0, .ref m25, .ref m26, .ref m27, .ref m28, .ref m29, .int 0, .ref m31, .ref m32, .ref m33, .int 0, .int 0, .int 0, .ref m37, .ref m38, .ref m39, .ref m40, .long 0])), (m16, .inl (k 0, 5, .inl f16)), (m17, .inl (k 0, 30, .inl f17)), (m18, .inl (k 0, 250, .inl f18)), (m19, .inl (k 0, 40, .inl f19)), (m20, .inl (k 0, 120, .inl f20)), (m21, .inl (k 0, 20, .inl f21)), (m22, .inl (k 0, 600, .inl f22))] sz) [(mo, .inr (12, [.int 0, .ref m1, .ref m2, .ref m3, .ref m4, .ref m5, .int 0, .int 0, .int 0, .int 0, .int 0, .long 0, .int 0, .int 0, .int 0, .int (-1), .ref m16, .ref m17, .ref m18, .ref m19, .ref m20, .ref m21, .ref m22, .ref m23, .int 0, .ref m25, .ref m26, .ref m27, .ref m28, .ref m29, .int 0, .ref m31, .ref m32, .ref m33, .int 0, .int 0, .int 0, .ref m37, .ref m38, .ref m39, .ref m40, .long 0])), (m16, .inl (k 0, 5, .inl o16)), (m17, .inl (k 0, 30, .inl o17)), (m18, .inl (k 0, 250, .inl o18)), (m19, .inl (k 0, 40, .inl o19)), (m20, .inl (k 0, 120, .inl o20)), (m21, .inl (k 0, 20, .inl o21)), (m22, .inl (k 0, 600, .inl o22))] tZ) (va_A [(mo, .inr (12, [.int 0, .ref m1, .ref m2, .ref m3, .ref m4, .ref m5, .int 0, .int 0, .int 0, .int 0, .int 0, .long 0, .int 0, .int 0, .int 0, .int (-1), .ref m16, .ref m17, .ref m18, .ref m19, .ref m20, .ref m21, .ref m22, .ref m23, .int 0, .ref m25, .ref m26, .ref m27, .ref m28, .ref m29, .int 0, .ref m31, .ref m32, .ref m33, .int 0, .int 0, .int 0, .ref m37, .ref m38, .ref m39, .ref m40, .long 0])), (m16, .inl (k 0, 5, .inl f16)), (m17, .inl (k 0, 30, .inl f17)), (m18, .inl (k 0, 250, .inl f18)), (m19, .inl (k 0, 40, .inl f19)), (m20, .inl (k 0, 120, .inl f20)), (m21, .inl (k 0, 20, .inl f21)), (m22, .inl (k 0, 600, .inl f22))] sz)) 0 0 (va_A [(mo, .inr (12, [.int 0, .ref m1, .ref m2, .ref m3, .ref m4, .ref m5, .int 0, .int 0, .int 0, .int 0, .int 0, .long 0, .int 0, .int 0, .int 0, .int (-1), .ref m16, .ref m17, .ref m18, .ref m19, .ref m20, .ref m21, .ref m22, .ref m23, .int 0, .ref m25, .ref m26, .ref m27, .ref m28, .ref m29, .int 0, .ref m31, .ref m32, .ref m33, .int 0, .int 0, .int 0, .ref m37, .ref m38, .ref m39, .ref m40, .long 0])), (m16, .inl (k 0, 5, .inl f16)), (m17, .inl (k 0, 30, .inl f17)), (m18, .inl (k 0, 250, .inl f18)), (m19, .inl (k 0, 40, .inl f19)), (m20, .inl (k 0, 120, .inl f20)), (m21, .inl (k 0, 20, .inl f21)), (m22, .inl (k 0, 600, .inl f22))] sz) := by
  refine Met.ofW (cc := cX12_copyTown) (maxL := 3) (ret := none) (by decide +kernel) rfl ?_
  intro p e s m args below meth c s₁ B hml hv
  obtain ⟨rfl, hsz, hP, hK, hD0, hN⟩ := hv
  have hx := B.exec
  have hb := B.bytes
  have hr := B.returns
  have hts : ∀ w ∈ TT, w.before _ s = true := fun w h => atoms_spec (ws := ww yX12_copyTown cX12_copyTown 3 none) B.pre w (List.mem_cons_of_mem _ h)
  have hown : s.vm.findClass RX12 = some m.cls := findClass_of_methodNamed B.named
  have hlocks := B.notSynchronized
  subst hsz
  have hD := hD0.self (sz := s.heap.size)
  generalize hAe : va_A [(mo, .inr (12, [.int 0, .ref m1, .ref m2, .ref m3, .ref m4, .ref m5, .int 0, .int 0, .int 0, .int 0, .int 0, .long 0, .int 0, .int 0, .int 0, .int (-1), .ref m16, .ref m17, .ref m18, .ref m19, .ref m20, .ref m21, .ref m22, .ref m23, .int 0, .ref m25, .ref m26, .ref m27, .ref m28, .ref m29, .int 0, .ref m31, .ref m32, .ref m33, .int 0, .int 0, .int 0, .ref m37, .ref m38, .ref m39, .ref m40, .long 0])), (m16, .inl (k 0, 5, .inl f16)), (m17, .inl (k 0, 30, .inl f17)), (m18, .inl (k 0, 250, .inl f18)), (m19, .inl (k 0, 40, .inl f19)), (m20, .inl (k 0, 120, .inl f20)), (m21, .inl (k 0, 20, .inl f21)), (m22, .inl (k 0, 600, .inl f22))] s.heap.size = A at hD ⊢
  have hA : ∀ q : Nat, s.heap.size ≤ q → A q := fun q h => by rw [← hAe]; exact Or.inr h
  have hS : va_S A s.heap s.heap [] := va_S.rf
  have hl := lv_entry ([.ref mo, .int 0, .int 1]) (n := 3) (Nat.le_of_ble_eq_true rfl)
  rw [lg_entry_eq]
  generalize (lg_sl ([.ref mo, .int 0, .int 1]) ++ List.replicate (3 - (lg_sl ([.ref mo, .int 0, .int 1])).length) Slot.unset).toArray = ls at hl ⊢
  have hl : lv_has ls 3 [(0, .ref mo), (1, .int 0), (2, .int 1)] := hl
  refine lv_aload_n hx hb dX12_copyTown_0 rfl (lv_at hl 0 rfl) ?_
  refine va_get (D := D) (ci := 12) (v := .ref m16) (C := RX12) (T := TX12) (N := 42) hx hb hts iT_X12 hown hK hP 0 rfl rfl 16 (by decide) (hts _ tw_6_69) (fun _ h9 => h9) rfl dX12_copyTown_1 ?_
  refine lv_iconst (v := 1) hx hb dX12_copyTown_4 (by decide) ?_
  refine lv_iload_n hx hb dX12_copyTown_5 rfl (lv_at hl 1 rfl) ?_
  refine lv_iload_n hx hb dX12_copyTown_6 rfl (lv_at hl 2 rfl) ?_
  have hPc := hP.sub (ws' := [(m16, .inl (k 0, 5, .inl f16))]) [1] rfl
  have hDc := hD.sub (ws' := [(m16, .inl (k 0, 5, .inl f16))]) [1] (by decide) rfl
  have hFc := va_free (wc := [(m16, .inl (k 0, 5, .inl f16))]) hD hS hA [1] rfl
  refine va_callv (va_runS (As := [.ref m16, .int 1, .int 0, .int 1]) (rest := []) ⟨hx, hb, hml, hown, hts⟩ (c_X12_copyRow_5_0_1 l D k m16 f16 s.heap.size) (va_cwS 4 hts (gS tw_7_91 tw_7_92 tw_1_13 tw_7_93) rfl rfl rfl hdS_X12_copyRow ⟨Nat.le_of_ble_eq_true rfl, Nat.le_of_ble_eq_true rfl⟩) (cz_S hK hPc hDc hN [.ref m16, .int 1, .int 0, .int 1]) rfl rfl hl.1 rfl (lv_room (Nat.le_of_ble_eq_true rfl)) dX12_copyTown_7 ⟨Nat.le_of_ble_eq_true rfl, Nat.le_of_ble_eq_true rfl⟩) hS (fun q _ h => hFc q h) hFc (fun uZ tZ H1 locs ht hvm hw hB hz1 hk1 hS => ?_)
  obtain ⟨o_2, rfl⟩ : ∃ z, z = uZ := ⟨_, rfl⟩
  obtain ⟨hP1, hK1, hD1⟩ := hB
  rw [ht] at hP1
  obtain ⟨hP, hD⟩ := va_join (wr := [(mo, .inr (12, [.int 0, .ref m1, .ref m2, .ref m3, .ref m4, .ref m5, .int 0, .int 0, .int 0, .int 0, .int 0, .long 0, .int 0, .int 0, .int 0, .int (-1), .ref m16, .ref m17, .ref m18, .ref m19, .ref m20, .ref m21, .ref m22, .ref m23, .int 0, .ref m25, .ref m26, .ref m27, .ref m28, .ref m29, .int 0, .ref m31, .ref m32, .ref m33, .int 0, .int 0, .int 0, .ref m37, .ref m38, .ref m39, .ref m40, .long 0])), (m17, .inl (k 0, 30, .inl f17)), (m18, .inl (k 0, 250, .inl f18)), (m19, .inl (k 0, 40, .inl f19)), (m20, .inl (k 0, 120, .inl f20)), (m21, .inl (k 0, 20, .inl f21)), (m22, .inl (k 0, 600, .inl f22))]) (w1 := [(m16, .inl (k 0, 5, .inl o_2))]) hP hD [1] [0, 2, 3, 4, 5, 6, 7] rfl rfl (by decide) (by decide) hk1 hFc hP1 hD1
  clear hK1 hP1 hD1 hPc hDc hFc
  clear hk1 hz1 ht hvm
  have hP : va_P D vwCl [(mo, .inr (12, [.int 0, .ref m1, .ref m2, .ref m3, .ref m4, .ref m5, .int 0, .int 0, .int 0, .int 0, .int 0, .long 0, .int 0, .int 0, .int 0, .int (-1), .ref m16, .ref m17, .ref m18, .ref m19, .ref m20, .ref m21, .ref m22, .ref m23, .int 0, .ref m25, .ref m26, .ref m27, .ref m28, .ref m29, .int 0, .ref m31, .ref m32, .ref m33, .int 0, .int 0, .int 0, .ref m37, .ref m38, .ref m39, .ref m40, .long 0])), (m17, .inl (k 0, 30, .inl f17)), (m18, .inl (k 0, 250, .inl f18)), (m19, .inl (k 0, 40, .inl f19)), (m20, .inl (k 0, 120, .inl f20)), (m21, .inl (k 0, 20, .inl f21)), (m22, .inl (k 0, 600, .inl f22)), (m16, .inl (k 0, 5, .inl o_2))] H1 := hP
  have hD : va_D A [(mo, .inr (12, [.int 0, .ref m1, .ref m2, .ref m3, .ref m4, .ref m5, .int 0, .int 0, .int 0, .int 0, .int 0, .long 0, .int 0, .int 0, .int 0, .int (-1), .ref m16, .ref m17, .ref m18, .ref m19, .ref m20, .ref m21, .ref m22, .ref m23, .int 0, .ref m25, .ref m26, .ref m27, .ref m28, .ref m29, .int 0, .ref m31, .ref m32, .ref m33, .int 0, .int 0, .int 0, .ref m37, .ref m38, .ref m39, .ref m40, .long 0])), (m17, .inl (k 0, 30, .inl f17)), (m18, .inl (k 0, 250, .inl f18)), (m19, .inl (k 0, 40, .inl f19)), (m20, .inl (k 0, 120, .inl f20)), (m21, .inl (k 0, 20, .inl f21)), (m22, .inl (k 0, 600, .inl f22)), (m16, .inl (k 0, 5, .inl o_2))] := hD
  generalize H1 = H at hP hS ⊢
  have hw_3 : (∀ j : Nat, f16 j = (0 : Int32)) → ∀ j : Nat, o_2 j = (0 : Int32) := hw
  clear hw
  refine lv_aload_n hx hb dX12_copyTown_10 rfl (lv_at hl 0 rfl) ?_
  refine va_get (D := D) (ci := 12) (v := .ref m17) (C := RX12) (T := TX12) (N := 42) hx hb hts iT_X12 hown hK hP 0 rfl rfl 17 (by decide) (hts _ tw_6_70) (fun _ h9 => h9) rfl dX12_copyTown_11 ?_
  refine lv_bipush (v := 6) hx hb dX12_copyTown_14 (by decide) ?_
  refine lv_iload_n hx hb dX12_copyTown_16 rfl (lv_at hl 1 rfl) ?_
  refine lv_iload_n hx hb dX12_copyTown_17 rfl (lv_at hl 2 rfl) ?_
  have hPc := hP.sub (ws' := [(m17, .inl (k 0, 30, .inl f17))]) [1] rfl
  have hDc := hD.sub (ws' := [(m17, .inl (k 0, 30, .inl f17))]) [1] (by decide) rfl
  have hFc := va_free (wc := [(m17, .inl (k 0, 30, .inl f17))]) hD hS hA [1] rfl
  refine va_callv (va_runS (As := [.ref m17, .int 6, .int 0, .int 1]) (rest := []) ⟨hx, hb, hml, hown, hts⟩ (c_X12_copyRow_30_0_1 l D k m17 f17 H.size) (va_cwS 4 hts (gS tw_7_91 tw_7_92 tw_1_13 tw_7_93) rfl rfl rfl hdS_X12_copyRow ⟨Nat.le_of_ble_eq_true rfl, Nat.le_of_ble_eq_true rfl⟩) (cz_S hK hPc hDc hN [.ref m17, .int 6, .int 0, .int 1]) rfl rfl hl.1 rfl (lv_room (Nat.le_of_ble_eq_true rfl)) dX12_copyTown_18 ⟨Nat.le_of_ble_eq_true rfl, Nat.le_of_ble_eq_true rfl⟩) hS (fun q _ h => hFc q h) hFc (fun uZ tZ H1 locs ht hvm hw hB hz1 hk1 hS => ?_)
  obtain ⟨o_5, rfl⟩ : ∃ z, z = uZ := ⟨_, rfl⟩
  obtain ⟨hP1, hK1, hD1⟩ := hB
  rw [ht] at hP1
  obtain ⟨hP, hD⟩ := va_join (wr := [(mo, .inr (12, [.int 0, .ref m1, .ref m2, .ref m3, .ref m4, .ref m5, .int 0, .int 0, .int 0, .int 0, .int 0, .long 0, .int 0, .int 0, .int 0, .int (-1), .ref m16, .ref m17, .ref m18, .ref m19, .ref m20, .ref m21, .ref m22, .ref m23, .int 0, .ref m25, .ref m26, .ref m27, .ref m28, .ref m29, .int 0, .ref m31, .ref m32, .ref m33, .int 0, .int 0, .int 0, .ref m37, .ref m38, .ref m39, .ref m40, .long 0])), (m18, .inl (k 0, 250, .inl f18)), (m19, .inl (k 0, 40, .inl f19)), (m20, .inl (k 0, 120, .inl f20)), (m21, .inl (k 0, 20, .inl f21)), (m22, .inl (k 0, 600, .inl f22)), (m16, .inl (k 0, 5, .inl o_2))]) (w1 := [(m17, .inl (k 0, 30, .inl o_5))]) hP hD [1] [0, 2, 3, 4, 5, 6, 7] rfl rfl (by decide) (by decide) hk1 hFc hP1 hD1
  clear hK1 hP1 hD1 hPc hDc hFc
  clear hk1 hz1 ht hvm
  have hP : va_P D vwCl [(mo, .inr (12, [.int 0, .ref m1, .ref m2, .ref m3, .ref m4, .ref m5, .int 0, .int 0, .int 0, .int 0, .int 0, .long 0, .int 0, .int 0, .int 0, .int (-1), .ref m16, .ref m17, .ref m18, .ref m19, .ref m20, .ref m21, .ref m22, .ref m23, .int 0, .ref m25, .ref m26, .ref m27, .ref m28, .ref m29, .int 0, .ref m31, .ref m32, .ref m33, .int 0, .int 0, .int 0, .ref m37, .ref m38, .ref m39, .ref m40, .long 0])), (m18, .inl (k 0, 250, .inl f18)), (m19, .inl (k 0, 40, .inl f19)), (m20, .inl (k 0, 120, .inl f20)), (m21, .inl (k 0, 20, .inl f21)), (m22, .inl (k 0, 600, .inl f22)), (m16, .inl (k 0, 5, .inl o_2)), (m17, .inl (k 0, 30, .inl o_5))] H1 := hP
  have hD : va_D A [(mo, .inr (12, [.int 0, .ref m1, .ref m2, .ref m3, .ref m4, .ref m5, .int 0, .int 0, .int 0, .int 0, .int 0, .long 0, .int 0, .int 0, .int 0, .int (-1), .ref m16, .ref m17, .ref m18, .ref m19, .ref m20, .ref m21, .ref m22, .ref m23, .int 0, .ref m25, .ref m26, .ref m27, .ref m28, .ref m29, .int 0, .ref m31, .ref m32, .ref m33, .int 0, .int 0, .int 0, .ref m37, .ref m38, .ref m39, .ref m40, .long 0])), (m18, .inl (k 0, 250, .inl f18)), (m19, .inl (k 0, 40, .inl f19)), (m20, .inl (k 0, 120, .inl f20)), (m21, .inl (k 0, 20, .inl f21)), (m22, .inl (k 0, 600, .inl f22)), (m16, .inl (k 0, 5, .inl o_2)), (m17, .inl (k 0, 30, .inl o_5))] := hD
  generalize H1 = H at hP hS ⊢
  have hw_6 : (∀ j : Nat, f17 j = (0 : Int32)) → ∀ j : Nat, o_5 j = (0 : Int32) := hw
  clear hw
  refine lv_aload_n hx hb dX12_copyTown_21 rfl (lv_at hl 0 rfl) ?_
  refine va_get (D := D) (ci := 12) (v := .ref m18) (C := RX12) (T := TX12) (N := 42) hx hb hts iT_X12 hown hK hP 0 rfl rfl 18 (by decide) (hts _ tw_6_71) (fun _ h9 => h9) rfl dX12_copyTown_22 ?_
  refine lv_bipush (v := 50) hx hb dX12_copyTown_25 (by decide) ?_
  refine lv_iload_n hx hb dX12_copyTown_27 rfl (lv_at hl 1 rfl) ?_
  refine lv_iload_n hx hb dX12_copyTown_28 rfl (lv_at hl 2 rfl) ?_
  have hPc := hP.sub (ws' := [(m18, .inl (k 0, 250, .inl f18))]) [1] rfl
  have hDc := hD.sub (ws' := [(m18, .inl (k 0, 250, .inl f18))]) [1] (by decide) rfl
  have hFc := va_free (wc := [(m18, .inl (k 0, 250, .inl f18))]) hD hS hA [1] rfl
  refine va_callv (va_runS (As := [.ref m18, .int 50, .int 0, .int 1]) (rest := []) ⟨hx, hb, hml, hown, hts⟩ (c_X12_copyRow_250_0_1 l D k m18 f18 H.size) (va_cwS 4 hts (gS tw_7_91 tw_7_92 tw_1_13 tw_7_93) rfl rfl rfl hdS_X12_copyRow ⟨Nat.le_of_ble_eq_true rfl, Nat.le_of_ble_eq_true rfl⟩) (cz_S hK hPc hDc hN [.ref m18, .int 50, .int 0, .int 1]) rfl rfl hl.1 rfl (lv_room (Nat.le_of_ble_eq_true rfl)) dX12_copyTown_29 ⟨Nat.le_of_ble_eq_true rfl, Nat.le_of_ble_eq_true rfl⟩) hS (fun q _ h => hFc q h) hFc (fun uZ tZ H1 locs ht hvm hw hB hz1 hk1 hS => ?_)
  obtain ⟨o_8, rfl⟩ : ∃ z, z = uZ := ⟨_, rfl⟩
  obtain ⟨hP1, hK1, hD1⟩ := hB
  rw [ht] at hP1
  obtain ⟨hP, hD⟩ := va_join (wr := [(mo, .inr (12, [.int 0, .ref m1, .ref m2, .ref m3, .ref m4, .ref m5, .int 0, .int 0, .int 0, .int 0, .int 0, .long 0, .int 0, .int 0, .int 0, .int (-1), .ref m16, .ref m17, .ref m18, .ref m19, .ref m20, .ref m21, .ref m22, .ref m23, .int 0, .ref m25, .ref m26, .ref m27, .ref m28, .ref m29, .int 0, .ref m31, .ref m32, .ref m33, .int 0, .int 0, .int 0, .ref m37, .ref m38, .ref m39, .ref m40, .long 0])), (m19, .inl (k 0, 40, .inl f19)), (m20, .inl (k 0, 120, .inl f20)), (m21, .inl (k 0, 20, .inl f21)), (m22, .inl (k 0, 600, .inl f22)), (m16, .inl (k 0, 5, .inl o_2)), (m17, .inl (k 0, 30, .inl o_5))]) (w1 := [(m18, .inl (k 0, 250, .inl o_8))]) hP hD [1] [0, 2, 3, 4, 5, 6, 7] rfl rfl (by decide) (by decide) hk1 hFc hP1 hD1
  clear hK1 hP1 hD1 hPc hDc hFc
  clear hk1 hz1 ht hvm
  have hP : va_P D vwCl [(mo, .inr (12, [.int 0, .ref m1, .ref m2, .ref m3, .ref m4, .ref m5, .int 0, .int 0, .int 0, .int 0, .int 0, .long 0, .int 0, .int 0, .int 0, .int (-1), .ref m16, .ref m17, .ref m18, .ref m19, .ref m20, .ref m21, .ref m22, .ref m23, .int 0, .ref m25, .ref m26, .ref m27, .ref m28, .ref m29, .int 0, .ref m31, .ref m32, .ref m33, .int 0, .int 0, .int 0, .ref m37, .ref m38, .ref m39, .ref m40, .long 0])), (m19, .inl (k 0, 40, .inl f19)), (m20, .inl (k 0, 120, .inl f20)), (m21, .inl (k 0, 20, .inl f21)), (m22, .inl (k 0, 600, .inl f22)), (m16, .inl (k 0, 5, .inl o_2)), (m17, .inl (k 0, 30, .inl o_5)), (m18, .inl (k 0, 250, .inl o_8))] H1 := hP
  have hD : va_D A [(mo, .inr (12, [.int 0, .ref m1, .ref m2, .ref m3, .ref m4, .ref m5, .int 0, .int 0, .int 0, .int 0, .int 0, .long 0, .int 0, .int 0, .int 0, .int (-1), .ref m16, .ref m17, .ref m18, .ref m19, .ref m20, .ref m21, .ref m22, .ref m23, .int 0, .ref m25, .ref m26, .ref m27, .ref m28, .ref m29, .int 0, .ref m31, .ref m32, .ref m33, .int 0, .int 0, .int 0, .ref m37, .ref m38, .ref m39, .ref m40, .long 0])), (m19, .inl (k 0, 40, .inl f19)), (m20, .inl (k 0, 120, .inl f20)), (m21, .inl (k 0, 20, .inl f21)), (m22, .inl (k 0, 600, .inl f22)), (m16, .inl (k 0, 5, .inl o_2)), (m17, .inl (k 0, 30, .inl o_5)), (m18, .inl (k 0, 250, .inl o_8))] := hD
  generalize H1 = H at hP hS ⊢
  have hw_9 : (∀ j : Nat, f18 j = (0 : Int32)) → ∀ j : Nat, o_8 j = (0 : Int32) := hw
  clear hw
  refine lv_aload_n hx hb dX12_copyTown_32 rfl (lv_at hl 0 rfl) ?_
  refine va_get (D := D) (ci := 12) (v := .ref m19) (C := RX12) (T := TX12) (N := 42) hx hb hts iT_X12 hown hK hP 0 rfl rfl 19 (by decide) (hts _ tw_6_72) (fun _ h9 => h9) rfl dX12_copyTown_33 ?_
  refine lv_bipush (v := 8) hx hb dX12_copyTown_36 (by decide) ?_
  refine lv_iload_n hx hb dX12_copyTown_38 rfl (lv_at hl 1 rfl) ?_
  refine lv_iload_n hx hb dX12_copyTown_39 rfl (lv_at hl 2 rfl) ?_
  have hPc := hP.sub (ws' := [(m19, .inl (k 0, 40, .inl f19))]) [1] rfl
  have hDc := hD.sub (ws' := [(m19, .inl (k 0, 40, .inl f19))]) [1] (by decide) rfl
  have hFc := va_free (wc := [(m19, .inl (k 0, 40, .inl f19))]) hD hS hA [1] rfl
  refine va_callv (va_runS (As := [.ref m19, .int 8, .int 0, .int 1]) (rest := []) ⟨hx, hb, hml, hown, hts⟩ (c_X12_copyRow_40_0_1 l D k m19 f19 H.size) (va_cwS 4 hts (gS tw_7_91 tw_7_92 tw_1_13 tw_7_93) rfl rfl rfl hdS_X12_copyRow ⟨Nat.le_of_ble_eq_true rfl, Nat.le_of_ble_eq_true rfl⟩) (cz_S hK hPc hDc hN [.ref m19, .int 8, .int 0, .int 1]) rfl rfl hl.1 rfl (lv_room (Nat.le_of_ble_eq_true rfl)) dX12_copyTown_40 ⟨Nat.le_of_ble_eq_true rfl, Nat.le_of_ble_eq_true rfl⟩) hS (fun q _ h => hFc q h) hFc (fun uZ tZ H1 locs ht hvm hw hB hz1 hk1 hS => ?_)
  obtain ⟨o_11, rfl⟩ : ∃ z, z = uZ := ⟨_, rfl⟩
  obtain ⟨hP1, hK1, hD1⟩ := hB
  rw [ht] at hP1
  obtain ⟨hP, hD⟩ := va_join (wr := [(mo, .inr (12, [.int 0, .ref m1, .ref m2, .ref m3, .ref m4, .ref m5, .int 0, .int 0, .int 0, .int 0, .int 0, .long 0, .int 0, .int 0, .int 0, .int (-1), .ref m16, .ref m17, .ref m18, .ref m19, .ref m20, .ref m21, .ref m22, .ref m23, .int 0, .ref m25, .ref m26, .ref m27, .ref m28, .ref m29, .int 0, .ref m31, .ref m32, .ref m33, .int 0, .int 0, .int 0, .ref m37, .ref m38, .ref m39, .ref m40, .long 0])), (m20, .inl (k 0, 120, .inl f20)), (m21, .inl (k 0, 20, .inl f21)), (m22, .inl (k 0, 600, .inl f22)), (m16, .inl (k 0, 5, .inl o_2)), (m17, .inl (k 0, 30, .inl o_5)), (m18, .inl (k 0, 250, .inl o_8))]) (w1 := [(m19, .inl (k 0, 40, .inl o_11))]) hP hD [1] [0, 2, 3, 4, 5, 6, 7] rfl rfl (by decide) (by decide) hk1 hFc hP1 hD1
  clear hK1 hP1 hD1 hPc hDc hFc
  clear hk1 hz1 ht hvm
  have hP : va_P D vwCl [(mo, .inr (12, [.int 0, .ref m1, .ref m2, .ref m3, .ref m4, .ref m5, .int 0, .int 0, .int 0, .int 0, .int 0, .long 0, .int 0, .int 0, .int 0, .int (-1), .ref m16, .ref m17, .ref m18, .ref m19, .ref m20, .ref m21, .ref m22, .ref m23, .int 0, .ref m25, .ref m26, .ref m27, .ref m28, .ref m29, .int 0, .ref m31, .ref m32, .ref m33, .int 0, .int 0, .int 0, .ref m37, .ref m38, .ref m39, .ref m40, .long 0])), (m20, .inl (k 0, 120, .inl f20)), (m21, .inl (k 0, 20, .inl f21)), (m22, .inl (k 0, 600, .inl f22)), (m16, .inl (k 0, 5, .inl o_2)), (m17, .inl (k 0, 30, .inl o_5)), (m18, .inl (k 0, 250, .inl o_8)), (m19, .inl (k 0, 40, .inl o_11))] H1 := hP
  have hD : va_D A [(mo, .inr (12, [.int 0, .ref m1, .ref m2, .ref m3, .ref m4, .ref m5, .int 0, .int 0, .int 0, .int 0, .int 0, .long 0, .int 0, .int 0, .int 0, .int (-1), .ref m16, .ref m17, .ref m18, .ref m19, .ref m20, .ref m21, .ref m22, .ref m23, .int 0, .ref m25, .ref m26, .ref m27, .ref m28, .ref m29, .int 0, .ref m31, .ref m32, .ref m33, .int 0, .int 0, .int 0, .ref m37, .ref m38, .ref m39, .ref m40, .long 0])), (m20, .inl (k 0, 120, .inl f20)), (m21, .inl (k 0, 20, .inl f21)), (m22, .inl (k 0, 600, .inl f22)), (m16, .inl (k 0, 5, .inl o_2)), (m17, .inl (k 0, 30, .inl o_5)), (m18, .inl (k 0, 250, .inl o_8)), (m19, .inl (k 0, 40, .inl o_11))] := hD
  generalize H1 = H at hP hS ⊢
  have hw_12 : (∀ j : Nat, f19 j = (0 : Int32)) → ∀ j : Nat, o_11 j = (0 : Int32) := hw
  clear hw
  refine lv_aload_n hx hb dX12_copyTown_43 rfl (lv_at hl 0 rfl) ?_
  refine va_get (D := D) (ci := 12) (v := .ref m20) (C := RX12) (T := TX12) (N := 42) hx hb hts iT_X12 hown hK hP 0 rfl rfl 20 (by decide) (hts _ tw_6_73) (fun _ h9 => h9) rfl dX12_copyTown_44 ?_
  refine lv_bipush (v := 24) hx hb dX12_copyTown_47 (by decide) ?_
  refine lv_iload_n hx hb dX12_copyTown_49 rfl (lv_at hl 1 rfl) ?_
  refine lv_iload_n hx hb dX12_copyTown_50 rfl (lv_at hl 2 rfl) ?_
  have hPc := hP.sub (ws' := [(m20, .inl (k 0, 120, .inl f20))]) [1] rfl
  have hDc := hD.sub (ws' := [(m20, .inl (k 0, 120, .inl f20))]) [1] (by decide) rfl
  have hFc := va_free (wc := [(m20, .inl (k 0, 120, .inl f20))]) hD hS hA [1] rfl
  refine va_callv (va_runS (As := [.ref m20, .int 24, .int 0, .int 1]) (rest := []) ⟨hx, hb, hml, hown, hts⟩ (c_X12_copyRow_120_0_1 l D k m20 f20 H.size) (va_cwS 4 hts (gS tw_7_91 tw_7_92 tw_1_13 tw_7_93) rfl rfl rfl hdS_X12_copyRow ⟨Nat.le_of_ble_eq_true rfl, Nat.le_of_ble_eq_true rfl⟩) (cz_S hK hPc hDc hN [.ref m20, .int 24, .int 0, .int 1]) rfl rfl hl.1 rfl (lv_room (Nat.le_of_ble_eq_true rfl)) dX12_copyTown_51 ⟨Nat.le_of_ble_eq_true rfl, Nat.le_of_ble_eq_true rfl⟩) hS (fun q _ h => hFc q h) hFc (fun uZ tZ H1 locs ht hvm hw hB hz1 hk1 hS => ?_)
  obtain ⟨o_14, rfl⟩ : ∃ z, z = uZ := ⟨_, rfl⟩
  obtain ⟨hP1, hK1, hD1⟩ := hB
  rw [ht] at hP1
  obtain ⟨hP, hD⟩ := va_join (wr := [(mo, .inr (12, [.int 0, .ref m1, .ref m2, .ref m3, .ref m4, .ref m5, .int 0, .int 0, .int 0, .int 0, .int 0, .long 0, .int 0, .int 0, .int 0, .int (-1), .ref m16, .ref m17, .ref m18, .ref m19, .ref m20, .ref m21, .ref m22, .ref m23, .int 0, .ref m25, .ref m26, .ref m27, .ref m28, .ref m29, .int 0, .ref m31, .ref m32, .ref m33, .int 0, .int 0, .int 0, .ref m37, .ref m38, .ref m39, .ref m40, .long 0])), (m21, .inl (k 0, 20, .inl f21)), (m22, .inl (k 0, 600, .inl f22)), (m16, .inl (k 0, 5, .inl o_2)), (m17, .inl (k 0, 30, .inl o_5)), (m18, .inl (k 0, 250, .inl o_8)), (m19, .inl (k 0, 40, .inl o_11))]) (w1 := [(m20, .inl (k 0, 120, .inl o_14))]) hP hD [1] [0, 2, 3, 4, 5, 6, 7] rfl rfl (by decide) (by decide) hk1 hFc hP1 hD1
  clear hK1 hP1 hD1 hPc hDc hFc
  clear hk1 hz1 ht hvm
  have hP : va_P D vwCl [(mo, .inr (12, [.int 0, .ref m1, .ref m2, .ref m3, .ref m4, .ref m5, .int 0, .int 0, .int 0, .int 0, .int 0, .long 0, .int 0, .int 0, .int 0, .int (-1), .ref m16, .ref m17, .ref m18, .ref m19, .ref m20, .ref m21, .ref m22, .ref m23, .int 0, .ref m25, .ref m26, .ref m27, .ref m28, .ref m29, .int 0, .ref m31, .ref m32, .ref m33, .int 0, .int 0, .int 0, .ref m37, .ref m38, .ref m39, .ref m40, .long 0])), (m21, .inl (k 0, 20, .inl f21)), (m22, .inl (k 0, 600, .inl f22)), (m16, .inl (k 0, 5, .inl o_2)), (m17, .inl (k 0, 30, .inl o_5)), (m18, .inl (k 0, 250, .inl o_8)), (m19, .inl (k 0, 40, .inl o_11)), (m20, .inl (k 0, 120, .inl o_14))] H1 := hP
  have hD : va_D A [(mo, .inr (12, [.int 0, .ref m1, .ref m2, .ref m3, .ref m4, .ref m5, .int 0, .int 0, .int 0, .int 0, .int 0, .long 0, .int 0, .int 0, .int 0, .int (-1), .ref m16, .ref m17, .ref m18, .ref m19, .ref m20, .ref m21, .ref m22, .ref m23, .int 0, .ref m25, .ref m26, .ref m27, .ref m28, .ref m29, .int 0, .ref m31, .ref m32, .ref m33, .int 0, .int 0, .int 0, .ref m37, .ref m38, .ref m39, .ref m40, .long 0])), (m21, .inl (k 0, 20, .inl f21)), (m22, .inl (k 0, 600, .inl f22)), (m16, .inl (k 0, 5, .inl o_2)), (m17, .inl (k 0, 30, .inl o_5)), (m18, .inl (k 0, 250, .inl o_8)), (m19, .inl (k 0, 40, .inl o_11)), (m20, .inl (k 0, 120, .inl o_14))] := hD
  generalize H1 = H at hP hS ⊢
  have hw_15 : (∀ j : Nat, f20 j = (0 : Int32)) → ∀ j : Nat, o_14 j = (0 : Int32) := hw
  clear hw
  refine lv_aload_n hx hb dX12_copyTown_54 rfl (lv_at hl 0 rfl) ?_
  refine va_get (D := D) (ci := 12) (v := .ref m21) (C := RX12) (T := TX12) (N := 42) hx hb hts iT_X12 hown hK hP 0 rfl rfl 21 (by decide) (hts _ tw_6_74) (fun _ h9 => h9) rfl dX12_copyTown_55 ?_
  refine lv_iconst (v := 4) hx hb dX12_copyTown_58 (by decide) ?_
  refine lv_iload_n hx hb dX12_copyTown_59 rfl (lv_at hl 1 rfl) ?_
  refine lv_iload_n hx hb dX12_copyTown_60 rfl (lv_at hl 2 rfl) ?_
  have hPc := hP.sub (ws' := [(m21, .inl (k 0, 20, .inl f21))]) [1] rfl
  have hDc := hD.sub (ws' := [(m21, .inl (k 0, 20, .inl f21))]) [1] (by decide) rfl
  have hFc := va_free (wc := [(m21, .inl (k 0, 20, .inl f21))]) hD hS hA [1] rfl
  refine va_callv (va_runS (As := [.ref m21, .int 4, .int 0, .int 1]) (rest := []) ⟨hx, hb, hml, hown, hts⟩ (c_X12_copyRow_20_0_1 l D k m21 f21 H.size) (va_cwS 4 hts (gS tw_7_91 tw_7_92 tw_1_13 tw_7_93) rfl rfl rfl hdS_X12_copyRow ⟨Nat.le_of_ble_eq_true rfl, Nat.le_of_ble_eq_true rfl⟩) (cz_S hK hPc hDc hN [.ref m21, .int 4, .int 0, .int 1]) rfl rfl hl.1 rfl (lv_room (Nat.le_of_ble_eq_true rfl)) dX12_copyTown_61 ⟨Nat.le_of_ble_eq_true rfl, Nat.le_of_ble_eq_true rfl⟩) hS (fun q _ h => hFc q h) hFc (fun uZ tZ H1 locs ht hvm hw hB hz1 hk1 hS => ?_)
  obtain ⟨o_17, rfl⟩ : ∃ z, z = uZ := ⟨_, rfl⟩
  obtain ⟨hP1, hK1, hD1⟩ := hB
  rw [ht] at hP1
  obtain ⟨hP, hD⟩ := va_join (wr := [(mo, .inr (12, [.int 0, .ref m1, .ref m2, .ref m3, .ref m4, .ref m5, .int 0, .int 0, .int 0, .int 0, .int 0, .long 0, .int 0, .int 0, .int 0, .int (-1), .ref m16, .ref m17, .ref m18, .ref m19, .ref m20, .ref m21, .ref m22, .ref m23, .int 0, .ref m25, .ref m26, .ref m27, .ref m28, .ref m29, .int 0, .ref m31, .ref m32, .ref m33, .int 0, .int 0, .int 0, .ref m37, .ref m38, .ref m39, .ref m40, .long 0])), (m22, .inl (k 0, 600, .inl f22)), (m16, .inl (k 0, 5, .inl o_2)), (m17, .inl (k 0, 30, .inl o_5)), (m18, .inl (k 0, 250, .inl o_8)), (m19, .inl (k 0, 40, .inl o_11)), (m20, .inl (k 0, 120, .inl o_14))]) (w1 := [(m21, .inl (k 0, 20, .inl o_17))]) hP hD [1] [0, 2, 3, 4, 5, 6, 7] rfl rfl (by decide) (by decide) hk1 hFc hP1 hD1
  clear hK1 hP1 hD1 hPc hDc hFc
  clear hk1 hz1 ht hvm
  have hP : va_P D vwCl [(mo, .inr (12, [.int 0, .ref m1, .ref m2, .ref m3, .ref m4, .ref m5, .int 0, .int 0, .int 0, .int 0, .int 0, .long 0, .int 0, .int 0, .int 0, .int (-1), .ref m16, .ref m17, .ref m18, .ref m19, .ref m20, .ref m21, .ref m22, .ref m23, .int 0, .ref m25, .ref m26, .ref m27, .ref m28, .ref m29, .int 0, .ref m31, .ref m32, .ref m33, .int 0, .int 0, .int 0, .ref m37, .ref m38, .ref m39, .ref m40, .long 0])), (m22, .inl (k 0, 600, .inl f22)), (m16, .inl (k 0, 5, .inl o_2)), (m17, .inl (k 0, 30, .inl o_5)), (m18, .inl (k 0, 250, .inl o_8)), (m19, .inl (k 0, 40, .inl o_11)), (m20, .inl (k 0, 120, .inl o_14)), (m21, .inl (k 0, 20, .inl o_17))] H1 := hP
  have hD : va_D A [(mo, .inr (12, [.int 0, .ref m1, .ref m2, .ref m3, .ref m4, .ref m5, .int 0, .int 0, .int 0, .int 0, .int 0, .long 0, .int 0, .int 0, .int 0, .int (-1), .ref m16, .ref m17, .ref m18, .ref m19, .ref m20, .ref m21, .ref m22, .ref m23, .int 0, .ref m25, .ref m26, .ref m27, .ref m28, .ref m29, .int 0, .ref m31, .ref m32, .ref m33, .int 0, .int 0, .int 0, .ref m37, .ref m38, .ref m39, .ref m40, .long 0])), (m22, .inl (k 0, 600, .inl f22)), (m16, .inl (k 0, 5, .inl o_2)), (m17, .inl (k 0, 30, .inl o_5)), (m18, .inl (k 0, 250, .inl o_8)), (m19, .inl (k 0, 40, .inl o_11)), (m20, .inl (k 0, 120, .inl o_14)), (m21, .inl (k 0, 20, .inl o_17))] := hD
  generalize H1 = H at hP hS ⊢
  have hw_18 : (∀ j : Nat, f21 j = (0 : Int32)) → ∀ j : Nat, o_17 j = (0 : Int32) := hw
  clear hw
  refine lv_aload_n hx hb dX12_copyTown_64 rfl (lv_at hl 0 rfl) ?_
  refine va_get (D := D) (ci := 12) (v := .ref m22) (C := RX12) (T := TX12) (N := 42) hx hb hts iT_X12 hown hK hP 0 rfl rfl 22 (by decide) (hts _ tw_6_75) (fun _ h9 => h9) rfl dX12_copyTown_65 ?_
  refine lv_bipush (v := 120) hx hb dX12_copyTown_68 (by decide) ?_
  refine lv_iload_n hx hb dX12_copyTown_70 rfl (lv_at hl 1 rfl) ?_
  refine lv_iload_n hx hb dX12_copyTown_71 rfl (lv_at hl 2 rfl) ?_
  have hPc := hP.sub (ws' := [(m22, .inl (k 0, 600, .inl f22))]) [1] rfl
  have hDc := hD.sub (ws' := [(m22, .inl (k 0, 600, .inl f22))]) [1] (by decide) rfl
  have hFc := va_free (wc := [(m22, .inl (k 0, 600, .inl f22))]) hD hS hA [1] rfl
  refine va_callv (va_runS (As := [.ref m22, .int 120, .int 0, .int 1]) (rest := []) ⟨hx, hb, hml, hown, hts⟩ (c_X12_copyRow_600_0_1 l D k m22 f22 H.size) (va_cwS 4 hts (gS tw_7_91 tw_7_92 tw_1_13 tw_7_93) rfl rfl rfl hdS_X12_copyRow ⟨Nat.le_of_ble_eq_true rfl, Nat.le_of_ble_eq_true rfl⟩) (cz_S hK hPc hDc hN [.ref m22, .int 120, .int 0, .int 1]) rfl rfl hl.1 rfl (lv_room (Nat.le_of_ble_eq_true rfl)) dX12_copyTown_72 ⟨Nat.le_of_ble_eq_true rfl, Nat.le_of_ble_eq_true rfl⟩) hS (fun q _ h => hFc q h) hFc (fun uZ tZ H1 locs ht hvm hw hB hz1 hk1 hS => ?_)
  obtain ⟨o_20, rfl⟩ : ∃ z, z = uZ := ⟨_, rfl⟩
  obtain ⟨hP1, hK1, hD1⟩ := hB
  rw [ht] at hP1
  obtain ⟨hP, hD⟩ := va_join (wr := [(mo, .inr (12, [.int 0, .ref m1, .ref m2, .ref m3, .ref m4, .ref m5, .int 0, .int 0, .int 0, .int 0, .int 0, .long 0, .int 0, .int 0, .int 0, .int (-1), .ref m16, .ref m17, .ref m18, .ref m19, .ref m20, .ref m21, .ref m22, .ref m23, .int 0, .ref m25, .ref m26, .ref m27, .ref m28, .ref m29, .int 0, .ref m31, .ref m32, .ref m33, .int 0, .int 0, .int 0, .ref m37, .ref m38, .ref m39, .ref m40, .long 0])), (m16, .inl (k 0, 5, .inl o_2)), (m17, .inl (k 0, 30, .inl o_5)), (m18, .inl (k 0, 250, .inl o_8)), (m19, .inl (k 0, 40, .inl o_11)), (m20, .inl (k 0, 120, .inl o_14)), (m21, .inl (k 0, 20, .inl o_17))]) (w1 := [(m22, .inl (k 0, 600, .inl o_20))]) hP hD [1] [0, 2, 3, 4, 5, 6, 7] rfl rfl (by decide) (by decide) hk1 hFc hP1 hD1
  clear hK1 hP1 hD1 hPc hDc hFc
  clear hk1 hz1 ht hvm
  have hP : va_P D vwCl [(mo, .inr (12, [.int 0, .ref m1, .ref m2, .ref m3, .ref m4, .ref m5, .int 0, .int 0, .int 0, .int 0, .int 0, .long 0, .int 0, .int 0, .int 0, .int (-1), .ref m16, .ref m17, .ref m18, .ref m19, .ref m20, .ref m21, .ref m22, .ref m23, .int 0, .ref m25, .ref m26, .ref m27, .ref m28, .ref m29, .int 0, .ref m31, .ref m32, .ref m33, .int 0, .int 0, .int 0, .ref m37, .ref m38, .ref m39, .ref m40, .long 0])), (m16, .inl (k 0, 5, .inl o_2)), (m17, .inl (k 0, 30, .inl o_5)), (m18, .inl (k 0, 250, .inl o_8)), (m19, .inl (k 0, 40, .inl o_11)), (m20, .inl (k 0, 120, .inl o_14)), (m21, .inl (k 0, 20, .inl o_17)), (m22, .inl (k 0, 600, .inl o_20))] H1 := hP
  have hD : va_D A [(mo, .inr (12, [.int 0, .ref m1, .ref m2, .ref m3, .ref m4, .ref m5, .int 0, .int 0, .int 0, .int 0, .int 0, .long 0, .int 0, .int 0, .int 0, .int (-1), .ref m16, .ref m17, .ref m18, .ref m19, .ref m20, .ref m21, .ref m22, .ref m23, .int 0, .ref m25, .ref m26, .ref m27, .ref m28, .ref m29, .int 0, .ref m31, .ref m32, .ref m33, .int 0, .int 0, .int 0, .ref m37, .ref m38, .ref m39, .ref m40, .long 0])), (m16, .inl (k 0, 5, .inl o_2)), (m17, .inl (k 0, 30, .inl o_5)), (m18, .inl (k 0, 250, .inl o_8)), (m19, .inl (k 0, 40, .inl o_11)), (m20, .inl (k 0, 120, .inl o_14)), (m21, .inl (k 0, 20, .inl o_17)), (m22, .inl (k 0, 600, .inl o_20))] := hD
  generalize H1 = H at hP hS ⊢
  have hw_21 : (∀ j : Nat, f22 j = (0 : Int32)) → ∀ j : Nat, o_20 j = (0 : Int32) := hw
  clear hw
  have hP9 := hP.sub (ws' := [(mo, .inr (12, [.int 0, .ref m1, .ref m2, .ref m3, .ref m4, .ref m5, .int 0, .int 0, .int 0, .int 0, .int 0, .long 0, .int 0, .int 0, .int 0, .int (-1), .ref m16, .ref m17, .ref m18, .ref m19, .ref m20, .ref m21, .ref m22, .ref m23, .int 0, .ref m25, .ref m26, .ref m27, .ref m28, .ref m29, .int 0, .ref m31, .ref m32, .ref m33, .int 0, .int 0, .int 0, .ref m37, .ref m38, .ref m39, .ref m40, .long 0])), (m16, .inl (k 0, 5, .inl o_2)), (m17, .inl (k 0, 30, .inl o_5)), (m18, .inl (k 0, 250, .inl o_8)), (m19, .inl (k 0, 40, .inl o_11)), (m20, .inl (k 0, 120, .inl o_14)), (m21, .inl (k 0, 20, .inl o_17)), (m22, .inl (k 0, 600, .inl o_20))]) [0, 1, 2, 3, 4, 5, 6, 7] rfl
  have hD9 := hD.sub (ws' := [(mo, .inr (12, [.int 0, .ref m1, .ref m2, .ref m3, .ref m4, .ref m5, .int 0, .int 0, .int 0, .int 0, .int 0, .long 0, .int 0, .int 0, .int 0, .int (-1), .ref m16, .ref m17, .ref m18, .ref m19, .ref m20, .ref m21, .ref m22, .ref m23, .int 0, .ref m25, .ref m26, .ref m27, .ref m28, .ref m29, .int 0, .ref m31, .ref m32, .ref m33, .int 0, .int 0, .int 0, .ref m37, .ref m38, .ref m39, .ref m40, .long 0])), (m16, .inl (k 0, 5, .inl o_2)), (m17, .inl (k 0, 30, .inl o_5)), (m18, .inl (k 0, 250, .inl o_8)), (m19, .inl (k 0, 40, .inl o_11)), (m20, .inl (k 0, 120, .inl o_14)), (m21, .inl (k 0, 20, .inl o_17)), (m22, .inl (k 0, 600, .inl o_20))]) [0, 1, 2, 3, 4, 5, 6, 7] (by decide) rfl
  exact W.vret hx hb hr (fun tZ ht hW => ⟨⟨(o_2, o_5, o_8, o_11, o_14, o_17, o_20), rfl, hw_3, by rw [ht]; exact hP9, va_K.moved hW.alike hK, hD9⟩, hS.F ht⟩) hS.2.2 dX12_copyTown_75
set_option maxHeartbeats 4000000 in
set_option maxRecDepth 100000 in
theorem c_X12_copyRow_5_0_2 (l : Launch) (D : va_G) (k : Nat → ClassId) (ra : Nat) (f : Nat → Int32) (sz : Nat) : Met l yX12_copyRow (ww yX12_copyRow cX12_copyRow 5 none) ({ frames := 0, cells := 0, slots := 0, locals := 0 }) (Pre0 D k [(ra, .inl (k 0, 5, .inl f))] sz [.ref ra, .int 1, .int 0, .int 2]) (va_Qv (fun (f2 : (Nat → Int32)) => (∀ j : Nat, f j = (0 : Int32)) → ∀ j : Nat, f2 j = (0 : Int32)) (fun (f2 : (Nat → Int32)) tZ => Bw D k (va_A [(ra, .inl (k 0, 5, .inl f))] sz) [(ra, .inl (k 0, 5, .inl f2))] tZ) (va_A [(ra, .inl (k 0, 5, .inl f))] sz)) 0 0 (va_A [(ra, .inl (k 0, 5, .inl f))] sz) := by
  refine Met.ofW (cc := cX12_copyRow) (maxL := 5) (ret := none) (by decide +kernel) rfl ?_
  intro p e s m args below meth c s₁ B hml hv
  obtain ⟨rfl, hsz, hP, hK, hD0, hN⟩ := hv
  have hx := B.exec
  have hb := B.bytes
  have hr := B.returns
  have hts : ∀ w ∈ TT, w.before _ s = true := fun w h => atoms_spec (ws := ww yX12_copyRow cX12_copyRow 5 none) B.pre w (List.mem_cons_of_mem _ h)
  have hown : s.vm.findClass RX12 = some m.cls := findClass_of_methodNamed B.named
  have hlocks := B.notSynchronized
  subst hsz
  have hD := hD0.self (sz := s.heap.size)
  generalize hAe : va_A [(ra, .inl (k 0, 5, .inl f))] s.heap.size = A at hD ⊢
  have hA : ∀ q : Nat, s.heap.size ≤ q → A q := fun q h => by rw [← hAe]; exact Or.inr h
  have hS : va_S A s.heap s.heap [] := va_S.rf
  have hl := lv_entry ([.ref ra, .int 1, .int 0, .int 2]) (n := 5) (Nat.le_of_ble_eq_true rfl)
  rw [lg_entry_eq]
  generalize (lg_sl ([.ref ra, .int 1, .int 0, .int 2]) ++ List.replicate (5 - (lg_sl ([.ref ra, .int 1, .int 0, .int 2])).length) Slot.unset).toArray = ls at hl ⊢
  have hl : lv_has ls 5 [(0, .ref ra), (1, .int 1), (2, .int 0), (3, .int 2)] := hl
  refine lv_iconst (v := 0) hx hb dX12_copyRow_0 (by decide) ?_
  refine lv_istore (lv' := [(4, .int 0), (0, .ref ra), (1, .int 1), (2, .int 0), (3, .int 2)]) hx hb dX12_copyRow_1 hl (by decide) rfl (fun ls hl => ?_)
  refine loop_r (Wg := fun H locs ls => W p l e _ s m _ below meth c H locs _ _ _ (F0 m 3 ls [])) (fun n9 H locs ls => ∃ (i : Int32) (gf : Nat → Int32), n9 = (1 - i.toInt).toNat ∧ (0 ≤ i.toInt) ∧ (i.toInt ≤ 1) ∧ ((∀ j : Nat, f j = (0 : Int32)) → ∀ j : Nat, gf j = (0 : Int32)) ∧ va_P D vwCl [(ra, .inl (k 0, 5, .inl gf))] H ∧ va_D A [(ra, .inl (k 0, 5, .inl gf))] ∧ va_S A s.heap H locs ∧ lv_has ls 5 [(4, .int i), (0, .ref ra), (1, .int 1), (2, .int 0), (3, .int 2)]) (fun n9 H locs ls hI ih_1 => ?_) _ _ _ _ ⟨0, f, rfl, (show 0 ≤ 0 from by omega), (show 0 ≤ 1 from by omega), (fun h => h), hP.sub (ws' := [(ra, .inl (k 0, 5, .inl f))]) [0] rfl, hD.sub (ws' := [(ra, .inl (k 0, 5, .inl f))]) [0] (by decide) rfl, hS, lv_sub hl [0, 1, 2, 3, 4] rfl⟩
  clear hP hD hS hl
  obtain ⟨i, gf, en_2, hi1, hi2, hz, hP, hD, hS, hl⟩ := hI
  refine lv_iload hx hb dX12_copyRow_3 (lv_at hl 0 rfl) ?_
  refine lv_iload_n hx hb dX12_copyRow_5 rfl (lv_at hl 2 rfl) ?_
  refine lv_icmp_ge (tgt := 31) hx hb dX12_copyRow_6 (by decide) (fun h_3 => ?_) (fun h_3 => ?_)
  · skip
    have zh_3 : 1 ≤ i.toInt := z_le h_3
    have hP9 := hP.sub (ws' := [(ra, .inl (k 0, 5, .inl gf))]) [0] rfl
    have hD9 := hD.sub (ws' := [(ra, .inl (k 0, 5, .inl gf))]) [0] (by decide) rfl
    exact W.vret hx hb hr (fun tZ ht hW => ⟨⟨gf, rfl, hz, by rw [ht]; exact hP9, va_K.moved hW.alike hK, hD9⟩, hS.F ht⟩) hS.2.2 dX12_copyRow_31
  · skip
    have zh_3 : i.toInt < 1 := z_nle h_3
    refine lv_aload_n hx hb dX12_copyRow_9 rfl (lv_at hl 1 rfl) ?_
    refine lv_iload_n hx hb dX12_copyRow_10 rfl (lv_at hl 2 rfl) ?_
    refine lv_iload_n hx hb dX12_copyRow_11 rfl (lv_at hl 4 rfl) ?_
    refine lv_imul hx hb dX12_copyRow_12 ?_
    refine lv_topi (fun x_4 ex_4 => ?_)
    obtain rfl : x_4 = 2 := ex_4.trans (by decide)
    refine lv_iload hx hb dX12_copyRow_13 (lv_at hl 0 rfl) ?_
    refine lv_iadd hx hb dX12_copyRow_15 ?_
    refine lv_topi (fun x_5 ex_5 => ?_)
    have zx_5 : x_5.toInt = 2 + i.toInt := by rw [ex_5]; exact z_add rfl rfl (by omega) (by omega)
    refine lv_aload_n hx hb dX12_copyRow_16 rfl (lv_at hl 1 rfl) ?_
    refine lv_iload_n hx hb dX12_copyRow_17 rfl (lv_at hl 2 rfl) ?_
    refine lv_iload_n hx hb dX12_copyRow_18 rfl (lv_at hl 3 rfl) ?_
    refine lv_imul hx hb dX12_copyRow_19 ?_
    refine lv_topi (fun x_6 ex_6 => ?_)
    obtain rfl : x_6 = 0 := ex_6.trans (by decide)
    refine lv_iload hx hb dX12_copyRow_20 (lv_at hl 0 rfl) ?_
    refine lv_iadd hx hb dX12_copyRow_22 ?_
    refine lv_topi (fun x_7 ex_7 => ?_)
    have zx_7 : x_7.toInt = 0 + i.toInt := by rw [ex_7]; exact z_add rfl rfl (by omega) (by omega)
    refine va_iald hx hb hK hP 0 0 rfl rfl (z_in (by omega) (by omega)) dX12_copyRow_23 ?_
    refine lv_topi (fun x_8 ex_8 => ?_)
    refine va_iast hx hb hK hP hD hS 0 0 rfl rfl (z_in (by omega) (by omega)) dX12_copyRow_24 (fun H locs hP hD hS => ?_)
    have hP : va_P D vwCl [(ra, .inl (k 0, 5, .inl (upd gf x_5.toNatClampNeg x_8)))] H := hP
    have hD : va_D A [(ra, .inl (k 0, 5, .inl (upd gf x_5.toNatClampNeg x_8)))] := hD
    obtain ⟨x_9, ex_9⟩ : ∃ y : Int32, y = i + 1 := ⟨_, rfl⟩
    have zx_9 : x_9.toInt = i.toInt + 1 := by rw [ex_9]; exact z_add rfl rfl (by omega) (by omega)
    refine lv_iinc (v := x_9) (lv' := [(4, .int x_9), (0, .ref ra), (1, .int 1), (2, .int 0), (3, .int 2)]) hx hb dX12_copyRow_25 hl (k := 0) rfl (by rw [ex_9]; rfl) (by decide) rfl (fun ls hl => ?_)
    refine lv_goto (tgt := 3) hx hb dX12_copyRow_28 (by decide) ?_
    exact ih_1 _ _ _ _ (by omega) ⟨x_9, (upd gf x_5.toNatClampNeg x_8), rfl, (show 0 ≤ x_9.toInt from by omega), (show x_9.toInt ≤ 1 from by omega), (fun h => updx (hz h) (ex_8.trans (hz h _))), hP.sub (ws' := [(ra, .inl (k 0, 5, .inl (upd gf x_5.toNatClampNeg x_8)))]) [0] rfl, hD.sub (ws' := [(ra, .inl (k 0, 5, .inl (upd gf x_5.toNatClampNeg x_8)))]) [0] (by decide) rfl, hS, lv_sub hl [0, 1, 2, 3, 4] rfl⟩
set_option maxHeartbeats 4000000 in
set_option maxRecDepth 100000 in
theorem c_X12_copyRow_30_0_2 (l : Launch) (D : va_G) (k : Nat → ClassId) (ra : Nat) (f : Nat → Int32) (sz : Nat) : Met l yX12_copyRow (ww yX12_copyRow cX12_copyRow 5 none) ({ frames := 0, cells := 0, slots := 0, locals := 0 }) (Pre0 D k [(ra, .inl (k 0, 30, .inl f))] sz [.ref ra, .int 6, .int 0, .int 2]) (va_Qv (fun (f2 : (Nat → Int32)) => (∀ j : Nat, f j = (0 : Int32)) → ∀ j : Nat, f2 j = (0 : Int32)) (fun (f2 : (Nat → Int32)) tZ => Bw D k (va_A [(ra, .inl (k 0, 30, .inl f))] sz) [(ra, .inl (k 0, 30, .inl f2))] tZ) (va_A [(ra, .inl (k 0, 30, .inl f))] sz)) 0 0 (va_A [(ra, .inl (k 0, 30, .inl f))] sz) := by
  refine Met.ofW (cc := cX12_copyRow) (maxL := 5) (ret := none) (by decide +kernel) rfl ?_
  intro p e s m args below meth c s₁ B hml hv
  obtain ⟨rfl, hsz, hP, hK, hD0, hN⟩ := hv
  have hx := B.exec
  have hb := B.bytes
  have hr := B.returns
  have hts : ∀ w ∈ TT, w.before _ s = true := fun w h => atoms_spec (ws := ww yX12_copyRow cX12_copyRow 5 none) B.pre w (List.mem_cons_of_mem _ h)
  have hown : s.vm.findClass RX12 = some m.cls := findClass_of_methodNamed B.named
  have hlocks := B.notSynchronized
  subst hsz
  have hD := hD0.self (sz := s.heap.size)
  generalize hAe : va_A [(ra, .inl (k 0, 30, .inl f))] s.heap.size = A at hD ⊢
  have hA : ∀ q : Nat, s.heap.size ≤ q → A q := fun q h => by rw [← hAe]; exact Or.inr h
  have hS : va_S A s.heap s.heap [] := va_S.rf
  have hl := lv_entry ([.ref ra, .int 6, .int 0, .int 2]) (n := 5) (Nat.le_of_ble_eq_true rfl)
  rw [lg_entry_eq]
  generalize (lg_sl ([.ref ra, .int 6, .int 0, .int 2]) ++ List.replicate (5 - (lg_sl ([.ref ra, .int 6, .int 0, .int 2])).length) Slot.unset).toArray = ls at hl ⊢
  have hl : lv_has ls 5 [(0, .ref ra), (1, .int 6), (2, .int 0), (3, .int 2)] := hl
  refine lv_iconst (v := 0) hx hb dX12_copyRow_0 (by decide) ?_
  refine lv_istore (lv' := [(4, .int 0), (0, .ref ra), (1, .int 6), (2, .int 0), (3, .int 2)]) hx hb dX12_copyRow_1 hl (by decide) rfl (fun ls hl => ?_)
  refine loop_r (Wg := fun H locs ls => W p l e _ s m _ below meth c H locs _ _ _ (F0 m 3 ls [])) (fun n9 H locs ls => ∃ (i : Int32) (gf : Nat → Int32), n9 = (6 - i.toInt).toNat ∧ (0 ≤ i.toInt) ∧ (i.toInt ≤ 6) ∧ ((∀ j : Nat, f j = (0 : Int32)) → ∀ j : Nat, gf j = (0 : Int32)) ∧ va_P D vwCl [(ra, .inl (k 0, 30, .inl gf))] H ∧ va_D A [(ra, .inl (k 0, 30, .inl gf))] ∧ va_S A s.heap H locs ∧ lv_has ls 5 [(4, .int i), (0, .ref ra), (1, .int 6), (2, .int 0), (3, .int 2)]) (fun n9 H locs ls hI ih_1 => ?_) _ _ _ _ ⟨0, f, rfl, (show 0 ≤ 0 from by omega), (show 0 ≤ 6 from by omega), (fun h => h), hP.sub (ws' := [(ra, .inl (k 0, 30, .inl f))]) [0] rfl, hD.sub (ws' := [(ra, .inl (k 0, 30, .inl f))]) [0] (by decide) rfl, hS, lv_sub hl [0, 1, 2, 3, 4] rfl⟩
  clear hP hD hS hl
  obtain ⟨i, gf, en_2, hi1, hi2, hz, hP, hD, hS, hl⟩ := hI
  refine lv_iload hx hb dX12_copyRow_3 (lv_at hl 0 rfl) ?_
  refine lv_iload_n hx hb dX12_copyRow_5 rfl (lv_at hl 2 rfl) ?_
  refine lv_icmp_ge (tgt := 31) hx hb dX12_copyRow_6 (by decide) (fun h_3 => ?_) (fun h_3 => ?_)
  · skip
    have zh_3 : 6 ≤ i.toInt := z_le h_3
    have hP9 := hP.sub (ws' := [(ra, .inl (k 0, 30, .inl gf))]) [0] rfl
    have hD9 := hD.sub (ws' := [(ra, .inl (k 0, 30, .inl gf))]) [0] (by decide) rfl
    exact W.vret hx hb hr (fun tZ ht hW => ⟨⟨gf, rfl, hz, by rw [ht]; exact hP9, va_K.moved hW.alike hK, hD9⟩, hS.F ht⟩) hS.2.2 dX12_copyRow_31
  · skip
    have zh_3 : i.toInt < 6 := z_nle h_3
    refine lv_aload_n hx hb dX12_copyRow_9 rfl (lv_at hl 1 rfl) ?_
    refine lv_iload_n hx hb dX12_copyRow_10 rfl (lv_at hl 2 rfl) ?_
    refine lv_iload_n hx hb dX12_copyRow_11 rfl (lv_at hl 4 rfl) ?_
    refine lv_imul hx hb dX12_copyRow_12 ?_
    refine lv_topi (fun x_4 ex_4 => ?_)
    obtain rfl : x_4 = 12 := ex_4.trans (by decide)
    refine lv_iload hx hb dX12_copyRow_13 (lv_at hl 0 rfl) ?_
    refine lv_iadd hx hb dX12_copyRow_15 ?_
    refine lv_topi (fun x_5 ex_5 => ?_)
    have zx_5 : x_5.toInt = 12 + i.toInt := by rw [ex_5]; exact z_add rfl rfl (by omega) (by omega)
    refine lv_aload_n hx hb dX12_copyRow_16 rfl (lv_at hl 1 rfl) ?_
    refine lv_iload_n hx hb dX12_copyRow_17 rfl (lv_at hl 2 rfl) ?_
    refine lv_iload_n hx hb dX12_copyRow_18 rfl (lv_at hl 3 rfl) ?_
    refine lv_imul hx hb dX12_copyRow_19 ?_
    refine lv_topi (fun x_6 ex_6 => ?_)
    obtain rfl : x_6 = 0 := ex_6.trans (by decide)
    refine lv_iload hx hb dX12_copyRow_20 (lv_at hl 0 rfl) ?_
    refine lv_iadd hx hb dX12_copyRow_22 ?_
    refine lv_topi (fun x_7 ex_7 => ?_)
    have zx_7 : x_7.toInt = 0 + i.toInt := by rw [ex_7]; exact z_add rfl rfl (by omega) (by omega)
    refine va_iald hx hb hK hP 0 0 rfl rfl (z_in (by omega) (by omega)) dX12_copyRow_23 ?_
    refine lv_topi (fun x_8 ex_8 => ?_)
    refine va_iast hx hb hK hP hD hS 0 0 rfl rfl (z_in (by omega) (by omega)) dX12_copyRow_24 (fun H locs hP hD hS => ?_)
    have hP : va_P D vwCl [(ra, .inl (k 0, 30, .inl (upd gf x_5.toNatClampNeg x_8)))] H := hP
    have hD : va_D A [(ra, .inl (k 0, 30, .inl (upd gf x_5.toNatClampNeg x_8)))] := hD
    obtain ⟨x_9, ex_9⟩ : ∃ y : Int32, y = i + 1 := ⟨_, rfl⟩
    have zx_9 : x_9.toInt = i.toInt + 1 := by rw [ex_9]; exact z_add rfl rfl (by omega) (by omega)
    refine lv_iinc (v := x_9) (lv' := [(4, .int x_9), (0, .ref ra), (1, .int 6), (2, .int 0), (3, .int 2)]) hx hb dX12_copyRow_25 hl (k := 0) rfl (by rw [ex_9]; rfl) (by decide) rfl (fun ls hl => ?_)
    refine lv_goto (tgt := 3) hx hb dX12_copyRow_28 (by decide) ?_
    exact ih_1 _ _ _ _ (by omega) ⟨x_9, (upd gf x_5.toNatClampNeg x_8), rfl, (show 0 ≤ x_9.toInt from by omega), (show x_9.toInt ≤ 6 from by omega), (fun h => updx (hz h) (ex_8.trans (hz h _))), hP.sub (ws' := [(ra, .inl (k 0, 30, .inl (upd gf x_5.toNatClampNeg x_8)))]) [0] rfl, hD.sub (ws' := [(ra, .inl (k 0, 30, .inl (upd gf x_5.toNatClampNeg x_8)))]) [0] (by decide) rfl, hS, lv_sub hl [0, 1, 2, 3, 4] rfl⟩
set_option maxHeartbeats 4000000 in
set_option maxRecDepth 100000 in
theorem c_X12_copyRow_250_0_2 (l : Launch) (D : va_G) (k : Nat → ClassId) (ra : Nat) (f : Nat → Int32) (sz : Nat) : Met l yX12_copyRow (ww yX12_copyRow cX12_copyRow 5 none) ({ frames := 0, cells := 0, slots := 0, locals := 0 }) (Pre0 D k [(ra, .inl (k 0, 250, .inl f))] sz [.ref ra, .int 50, .int 0, .int 2]) (va_Qv (fun (f2 : (Nat → Int32)) => (∀ j : Nat, f j = (0 : Int32)) → ∀ j : Nat, f2 j = (0 : Int32)) (fun (f2 : (Nat → Int32)) tZ => Bw D k (va_A [(ra, .inl (k 0, 250, .inl f))] sz) [(ra, .inl (k 0, 250, .inl f2))] tZ) (va_A [(ra, .inl (k 0, 250, .inl f))] sz)) 0 0 (va_A [(ra, .inl (k 0, 250, .inl f))] sz) := by
  refine Met.ofW (cc := cX12_copyRow) (maxL := 5) (ret := none) (by decide +kernel) rfl ?_
  intro p e s m args below meth c s₁ B hml hv
  obtain ⟨rfl, hsz, hP, hK, hD0, hN⟩ := hv
  have hx := B.exec
  have hb := B.bytes
  have hr := B.returns
  have hts : ∀ w ∈ TT, w.before _ s = true := fun w h => atoms_spec (ws := ww yX12_copyRow cX12_copyRow 5 none) B.pre w (List.mem_cons_of_mem _ h)
  have hown : s.vm.findClass RX12 = some m.cls := findClass_of_methodNamed B.named
  have hlocks := B.notSynchronized
  subst hsz
  have hD := hD0.self (sz := s.heap.size)
  generalize hAe : va_A [(ra, .inl (k 0, 250, .inl f))] s.heap.size = A at hD ⊢
  have hA : ∀ q : Nat, s.heap.size ≤ q → A q := fun q h => by rw [← hAe]; exact Or.inr h
  have hS : va_S A s.heap s.heap [] := va_S.rf
  have hl := lv_entry ([.ref ra, .int 50, .int 0, .int 2]) (n := 5) (Nat.le_of_ble_eq_true rfl)
  rw [lg_entry_eq]
  generalize (lg_sl ([.ref ra, .int 50, .int 0, .int 2]) ++ List.replicate (5 - (lg_sl ([.ref ra, .int 50, .int 0, .int 2])).length) Slot.unset).toArray = ls at hl ⊢
  have hl : lv_has ls 5 [(0, .ref ra), (1, .int 50), (2, .int 0), (3, .int 2)] := hl
  refine lv_iconst (v := 0) hx hb dX12_copyRow_0 (by decide) ?_
  refine lv_istore (lv' := [(4, .int 0), (0, .ref ra), (1, .int 50), (2, .int 0), (3, .int 2)]) hx hb dX12_copyRow_1 hl (by decide) rfl (fun ls hl => ?_)
  refine loop_r (Wg := fun H locs ls => W p l e _ s m _ below meth c H locs _ _ _ (F0 m 3 ls [])) (fun n9 H locs ls => ∃ (i : Int32) (gf : Nat → Int32), n9 = (50 - i.toInt).toNat ∧ (0 ≤ i.toInt) ∧ (i.toInt ≤ 50) ∧ ((∀ j : Nat, f j = (0 : Int32)) → ∀ j : Nat, gf j = (0 : Int32)) ∧ va_P D vwCl [(ra, .inl (k 0, 250, .inl gf))] H ∧ va_D A [(ra, .inl (k 0, 250, .inl gf))] ∧ va_S A s.heap H locs ∧ lv_has ls 5 [(4, .int i), (0, .ref ra), (1, .int 50), (2, .int 0), (3, .int 2)]) (fun n9 H locs ls hI ih_1 => ?_) _ _ _ _ ⟨0, f, rfl, (show 0 ≤ 0 from by omega), (show 0 ≤ 50 from by omega), (fun h => h), hP.sub (ws' := [(ra, .inl (k 0, 250, .inl f))]) [0] rfl, hD.sub (ws' := [(ra, .inl (k 0, 250, .inl f))]) [0] (by decide) rfl, hS, lv_sub hl [0, 1, 2, 3, 4] rfl⟩
  clear hP hD hS hl
  obtain ⟨i, gf, en_2, hi1, hi2, hz, hP, hD, hS, hl⟩ := hI
  refine lv_iload hx hb dX12_copyRow_3 (lv_at hl 0 rfl) ?_
  refine lv_iload_n hx hb dX12_copyRow_5 rfl (lv_at hl 2 rfl) ?_
  refine lv_icmp_ge (tgt := 31) hx hb dX12_copyRow_6 (by decide) (fun h_3 => ?_) (fun h_3 => ?_)
  · skip
    have zh_3 : 50 ≤ i.toInt := z_le h_3
    have hP9 := hP.sub (ws' := [(ra, .inl (k 0, 250, .inl gf))]) [0] rfl
    have hD9 := hD.sub (ws' := [(ra, .inl (k 0, 250, .inl gf))]) [0] (by decide) rfl
    exact W.vret hx hb hr (fun tZ ht hW => ⟨⟨gf, rfl, hz, by rw [ht]; exact hP9, va_K.moved hW.alike hK, hD9⟩, hS.F ht⟩) hS.2.2 dX12_copyRow_31
  · skip
    have zh_3 : i.toInt < 50 := z_nle h_3
    refine lv_aload_n hx hb dX12_copyRow_9 rfl (lv_at hl 1 rfl) ?_
    refine lv_iload_n hx hb dX12_copyRow_10 rfl (lv_at hl 2 rfl) ?_
    refine lv_iload_n hx hb dX12_copyRow_11 rfl (lv_at hl 4 rfl) ?_
    refine lv_imul hx hb dX12_copyRow_12 ?_
    refine lv_topi (fun x_4 ex_4 => ?_)
    obtain rfl : x_4 = 100 := ex_4.trans (by decide)
    refine lv_iload hx hb dX12_copyRow_13 (lv_at hl 0 rfl) ?_
    refine lv_iadd hx hb dX12_copyRow_15 ?_
    refine lv_topi (fun x_5 ex_5 => ?_)
    have zx_5 : x_5.toInt = 100 + i.toInt := by rw [ex_5]; exact z_add rfl rfl (by omega) (by omega)
    refine lv_aload_n hx hb dX12_copyRow_16 rfl (lv_at hl 1 rfl) ?_
    refine lv_iload_n hx hb dX12_copyRow_17 rfl (lv_at hl 2 rfl) ?_
    refine lv_iload_n hx hb dX12_copyRow_18 rfl (lv_at hl 3 rfl) ?_
    refine lv_imul hx hb dX12_copyRow_19 ?_
    refine lv_topi (fun x_6 ex_6 => ?_)
    obtain rfl : x_6 = 0 := ex_6.trans (by decide)
    refine lv_iload hx hb dX12_copyRow_20 (lv_at hl 0 rfl) ?_
    refine lv_iadd hx hb dX12_copyRow_22 ?_
    refine lv_topi (fun x_7 ex_7 => ?_)
    have zx_7 : x_7.toInt = 0 + i.toInt := by rw [ex_7]; exact z_add rfl rfl (by omega) (by omega)
    refine va_iald hx hb hK hP 0 0 rfl rfl (z_in (by omega) (by omega)) dX12_copyRow_23 ?_
    refine lv_topi (fun x_8 ex_8 => ?_)
    refine va_iast hx hb hK hP hD hS 0 0 rfl rfl (z_in (by omega) (by omega)) dX12_copyRow_24 (fun H locs hP hD hS => ?_)
    have hP : va_P D vwCl [(ra, .inl (k 0, 250, .inl (upd gf x_5.toNatClampNeg x_8)))] H := hP
    have hD : va_D A [(ra, .inl (k 0, 250, .inl (upd gf x_5.toNatClampNeg x_8)))] := hD
    obtain ⟨x_9, ex_9⟩ : ∃ y : Int32, y = i + 1 := ⟨_, rfl⟩
    have zx_9 : x_9.toInt = i.toInt + 1 := by rw [ex_9]; exact z_add rfl rfl (by omega) (by omega)
    refine lv_iinc (v := x_9) (lv' := [(4, .int x_9), (0, .ref ra), (1, .int 50), (2, .int 0), (3, .int 2)]) hx hb dX12_copyRow_25 hl (k := 0) rfl (by rw [ex_9]; rfl) (by decide) rfl (fun ls hl => ?_)
    refine lv_goto (tgt := 3) hx hb dX12_copyRow_28 (by decide) ?_
    exact ih_1 _ _ _ _ (by omega) ⟨x_9, (upd gf x_5.toNatClampNeg x_8), rfl, (show 0 ≤ x_9.toInt from by omega), (show x_9.toInt ≤ 50 from by omega), (fun h => updx (hz h) (ex_8.trans (hz h _))), hP.sub (ws' := [(ra, .inl (k 0, 250, .inl (upd gf x_5.toNatClampNeg x_8)))]) [0] rfl, hD.sub (ws' := [(ra, .inl (k 0, 250, .inl (upd gf x_5.toNatClampNeg x_8)))]) [0] (by decide) rfl, hS, lv_sub hl [0, 1, 2, 3, 4] rfl⟩
set_option maxHeartbeats 4000000 in
set_option maxRecDepth 100000 in
theorem c_X12_copyRow_40_0_2 (l : Launch) (D : va_G) (k : Nat → ClassId) (ra : Nat) (f : Nat → Int32) (sz : Nat) : Met l yX12_copyRow (ww yX12_copyRow cX12_copyRow 5 none) ({ frames := 0, cells := 0, slots := 0, locals := 0 }) (Pre0 D k [(ra, .inl (k 0, 40, .inl f))] sz [.ref ra, .int 8, .int 0, .int 2]) (va_Qv (fun (f2 : (Nat → Int32)) => (∀ j : Nat, f j = (0 : Int32)) → ∀ j : Nat, f2 j = (0 : Int32)) (fun (f2 : (Nat → Int32)) tZ => Bw D k (va_A [(ra, .inl (k 0, 40, .inl f))] sz) [(ra, .inl (k 0, 40, .inl f2))] tZ) (va_A [(ra, .inl (k 0, 40, .inl f))] sz)) 0 0 (va_A [(ra, .inl (k 0, 40, .inl f))] sz) := by
  refine Met.ofW (cc := cX12_copyRow) (maxL := 5) (ret := none) (by decide +kernel) rfl ?_
  intro p e s m args below meth c s₁ B hml hv
  obtain ⟨rfl, hsz, hP, hK, hD0, hN⟩ := hv
  have hx := B.exec
  have hb := B.bytes
  have hr := B.returns
  have hts : ∀ w ∈ TT, w.before _ s = true := fun w h => atoms_spec (ws := ww yX12_copyRow cX12_copyRow 5 none) B.pre w (List.mem_cons_of_mem _ h)
  have hown : s.vm.findClass RX12 = some m.cls := findClass_of_methodNamed B.named
  have hlocks := B.notSynchronized
  subst hsz
  have hD := hD0.self (sz := s.heap.size)
  generalize hAe : va_A [(ra, .inl (k 0, 40, .inl f))] s.heap.size = A at hD ⊢
  have hA : ∀ q : Nat, s.heap.size ≤ q → A q := fun q h => by rw [← hAe]; exact Or.inr h
  have hS : va_S A s.heap s.heap [] := va_S.rf
  have hl := lv_entry ([.ref ra, .int 8, .int 0, .int 2]) (n := 5) (Nat.le_of_ble_eq_true rfl)
  rw [lg_entry_eq]
  generalize (lg_sl ([.ref ra, .int 8, .int 0, .int 2]) ++ List.replicate (5 - (lg_sl ([.ref ra, .int 8, .int 0, .int 2])).length) Slot.unset).toArray = ls at hl ⊢
  have hl : lv_has ls 5 [(0, .ref ra), (1, .int 8), (2, .int 0), (3, .int 2)] := hl
  refine lv_iconst (v := 0) hx hb dX12_copyRow_0 (by decide) ?_
  refine lv_istore (lv' := [(4, .int 0), (0, .ref ra), (1, .int 8), (2, .int 0), (3, .int 2)]) hx hb dX12_copyRow_1 hl (by decide) rfl (fun ls hl => ?_)
  refine loop_r (Wg := fun H locs ls => W p l e _ s m _ below meth c H locs _ _ _ (F0 m 3 ls [])) (fun n9 H locs ls => ∃ (i : Int32) (gf : Nat → Int32), n9 = (8 - i.toInt).toNat ∧ (0 ≤ i.toInt) ∧ (i.toInt ≤ 8) ∧ ((∀ j : Nat, f j = (0 : Int32)) → ∀ j : Nat, gf j = (0 : Int32)) ∧ va_P D vwCl [(ra, .inl (k 0, 40, .inl gf))] H ∧ va_D A [(ra, .inl (k 0, 40, .inl gf))] ∧ va_S A s.heap H locs ∧ lv_has ls 5 [(4, .int i), (0, .ref ra), (1, .int 8), (2, .int 0), (3, .int 2)]) (fun n9 H locs ls hI ih_1 => ?_) _ _ _ _ ⟨0, f, rfl, (show 0 ≤ 0 from by omega), (show 0 ≤ 8 from by omega), (fun h => h), hP.sub (ws' := [(ra, .inl (k 0, 40, .inl f))]) [0] rfl, hD.sub (ws' := [(ra, .inl (k 0, 40, .inl f))]) [0] (by decide) rfl, hS, lv_sub hl [0, 1, 2, 3, 4] rfl⟩
  clear hP hD hS hl
  obtain ⟨i, gf, en_2, hi1, hi2, hz, hP, hD, hS, hl⟩ := hI
  refine lv_iload hx hb dX12_copyRow_3 (lv_at hl 0 rfl) ?_
  refine lv_iload_n hx hb dX12_copyRow_5 rfl (lv_at hl 2 rfl) ?_
  refine lv_icmp_ge (tgt := 31) hx hb dX12_copyRow_6 (by decide) (fun h_3 => ?_) (fun h_3 => ?_)
  · skip
    have zh_3 : 8 ≤ i.toInt := z_le h_3
    have hP9 := hP.sub (ws' := [(ra, .inl (k 0, 40, .inl gf))]) [0] rfl
    have hD9 := hD.sub (ws' := [(ra, .inl (k 0, 40, .inl gf))]) [0] (by decide) rfl
    exact W.vret hx hb hr (fun tZ ht hW => ⟨⟨gf, rfl, hz, by rw [ht]; exact hP9, va_K.moved hW.alike hK, hD9⟩, hS.F ht⟩) hS.2.2 dX12_copyRow_31
  · skip
    have zh_3 : i.toInt < 8 := z_nle h_3
    refine lv_aload_n hx hb dX12_copyRow_9 rfl (lv_at hl 1 rfl) ?_
    refine lv_iload_n hx hb dX12_copyRow_10 rfl (lv_at hl 2 rfl) ?_
    refine lv_iload_n hx hb dX12_copyRow_11 rfl (lv_at hl 4 rfl) ?_
    refine lv_imul hx hb dX12_copyRow_12 ?_
    refine lv_topi (fun x_4 ex_4 => ?_)
    obtain rfl : x_4 = 16 := ex_4.trans (by decide)
    refine lv_iload hx hb dX12_copyRow_13 (lv_at hl 0 rfl) ?_
    refine lv_iadd hx hb dX12_copyRow_15 ?_
    refine lv_topi (fun x_5 ex_5 => ?_)
    have zx_5 : x_5.toInt = 16 + i.toInt := by rw [ex_5]; exact z_add rfl rfl (by omega) (by omega)
    refine lv_aload_n hx hb dX12_copyRow_16 rfl (lv_at hl 1 rfl) ?_
    refine lv_iload_n hx hb dX12_copyRow_17 rfl (lv_at hl 2 rfl) ?_
    refine lv_iload_n hx hb dX12_copyRow_18 rfl (lv_at hl 3 rfl) ?_
    refine lv_imul hx hb dX12_copyRow_19 ?_
    refine lv_topi (fun x_6 ex_6 => ?_)
    obtain rfl : x_6 = 0 := ex_6.trans (by decide)
    refine lv_iload hx hb dX12_copyRow_20 (lv_at hl 0 rfl) ?_
    refine lv_iadd hx hb dX12_copyRow_22 ?_
    refine lv_topi (fun x_7 ex_7 => ?_)
    have zx_7 : x_7.toInt = 0 + i.toInt := by rw [ex_7]; exact z_add rfl rfl (by omega) (by omega)
    refine va_iald hx hb hK hP 0 0 rfl rfl (z_in (by omega) (by omega)) dX12_copyRow_23 ?_
    refine lv_topi (fun x_8 ex_8 => ?_)
    refine va_iast hx hb hK hP hD hS 0 0 rfl rfl (z_in (by omega) (by omega)) dX12_copyRow_24 (fun H locs hP hD hS => ?_)
    have hP : va_P D vwCl [(ra, .inl (k 0, 40, .inl (upd gf x_5.toNatClampNeg x_8)))] H := hP
    have hD : va_D A [(ra, .inl (k 0, 40, .inl (upd gf x_5.toNatClampNeg x_8)))] := hD
    obtain ⟨x_9, ex_9⟩ : ∃ y : Int32, y = i + 1 := ⟨_, rfl⟩
    have zx_9 : x_9.toInt = i.toInt + 1 := by rw [ex_9]; exact z_add rfl rfl (by omega) (by omega)
    refine lv_iinc (v := x_9) (lv' := [(4, .int x_9), (0, .ref ra), (1, .int 8), (2, .int 0), (3, .int 2)]) hx hb dX12_copyRow_25 hl (k := 0) rfl (by rw [ex_9]; rfl) (by decide) rfl (fun ls hl => ?_)
    refine lv_goto (tgt := 3) hx hb dX12_copyRow_28 (by decide) ?_
    exact ih_1 _ _ _ _ (by omega) ⟨x_9, (upd gf x_5.toNatClampNeg x_8), rfl, (show 0 ≤ x_9.toInt from by omega), (show x_9.toInt ≤ 8 from by omega), (fun h => updx (hz h) (ex_8.trans (hz h _))), hP.sub (ws' := [(ra, .inl (k 0, 40, .inl (upd gf x_5.toNatClampNeg x_8)))]) [0] rfl, hD.sub (ws' := [(ra, .inl (k 0, 40, .inl (upd gf x_5.toNatClampNeg x_8)))]) [0] (by decide) rfl, hS, lv_sub hl [0, 1, 2, 3, 4] rfl⟩
set_option maxHeartbeats 4000000 in
set_option maxRecDepth 100000 in
theorem c_X12_copyRow_120_0_2 (l : Launch) (D : va_G) (k : Nat → ClassId) (ra : Nat) (f : Nat → Int32) (sz : Nat) : Met l yX12_copyRow (ww yX12_copyRow cX12_copyRow 5 none) ({ frames := 0, cells := 0, slots := 0, locals := 0 }) (Pre0 D k [(ra, .inl (k 0, 120, .inl f))] sz [.ref ra, .int 24, .int 0, .int 2]) (va_Qv (fun (f2 : (Nat → Int32)) => (∀ j : Nat, f j = (0 : Int32)) → ∀ j : Nat, f2 j = (0 : Int32)) (fun (f2 : (Nat → Int32)) tZ => Bw D k (va_A [(ra, .inl (k 0, 120, .inl f))] sz) [(ra, .inl (k 0, 120, .inl f2))] tZ) (va_A [(ra, .inl (k 0, 120, .inl f))] sz)) 0 0 (va_A [(ra, .inl (k 0, 120, .inl f))] sz) := by
  refine Met.ofW (cc := cX12_copyRow) (maxL := 5) (ret := none) (by decide +kernel) rfl ?_
  intro p e s m args below meth c s₁ B hml hv
  obtain ⟨rfl, hsz, hP, hK, hD0, hN⟩ := hv
  have hx := B.exec
  have hb := B.bytes
  have hr := B.returns
  have hts : ∀ w ∈ TT, w.before _ s = true := fun w h => atoms_spec (ws := ww yX12_copyRow cX12_copyRow 5 none) B.pre w (List.mem_cons_of_mem _ h)
  have hown : s.vm.findClass RX12 = some m.cls := findClass_of_methodNamed B.named
  have hlocks := B.notSynchronized
  subst hsz
  have hD := hD0.self (sz := s.heap.size)
  generalize hAe : va_A [(ra, .inl (k 0, 120, .inl f))] s.heap.size = A at hD ⊢
  have hA : ∀ q : Nat, s.heap.size ≤ q → A q := fun q h => by rw [← hAe]; exact Or.inr h
  have hS : va_S A s.heap s.heap [] := va_S.rf
  have hl := lv_entry ([.ref ra, .int 24, .int 0, .int 2]) (n := 5) (Nat.le_of_ble_eq_true rfl)
  rw [lg_entry_eq]
  generalize (lg_sl ([.ref ra, .int 24, .int 0, .int 2]) ++ List.replicate (5 - (lg_sl ([.ref ra, .int 24, .int 0, .int 2])).length) Slot.unset).toArray = ls at hl ⊢
  have hl : lv_has ls 5 [(0, .ref ra), (1, .int 24), (2, .int 0), (3, .int 2)] := hl
  refine lv_iconst (v := 0) hx hb dX12_copyRow_0 (by decide) ?_
  refine lv_istore (lv' := [(4, .int 0), (0, .ref ra), (1, .int 24), (2, .int 0), (3, .int 2)]) hx hb dX12_copyRow_1 hl (by decide) rfl (fun ls hl => ?_)
  refine loop_r (Wg := fun H locs ls => W p l e _ s m _ below meth c H locs _ _ _ (F0 m 3 ls [])) (fun n9 H locs ls => ∃ (i : Int32) (gf : Nat → Int32), n9 = (24 - i.toInt).toNat ∧ (0 ≤ i.toInt) ∧ (i.toInt ≤ 24) ∧ ((∀ j : Nat, f j = (0 : Int32)) → ∀ j : Nat, gf j = (0 : Int32)) ∧ va_P D vwCl [(ra, .inl (k 0, 120, .inl gf))] H ∧ va_D A [(ra, .inl (k 0, 120, .inl gf))] ∧ va_S A s.heap H locs ∧ lv_has ls 5 [(4, .int i), (0, .ref ra), (1, .int 24), (2, .int 0), (3, .int 2)]) (fun n9 H locs ls hI ih_1 => ?_) _ _ _ _ ⟨0, f, rfl, (show 0 ≤ 0 from by omega), (show 0 ≤ 24 from by omega), (fun h => h), hP.sub (ws' := [(ra, .inl (k 0, 120, .inl f))]) [0] rfl, hD.sub (ws' := [(ra, .inl (k 0, 120, .inl f))]) [0] (by decide) rfl, hS, lv_sub hl [0, 1, 2, 3, 4] rfl⟩
  clear hP hD hS hl
  obtain ⟨i, gf, en_2, hi1, hi2, hz, hP, hD, hS, hl⟩ := hI
  refine lv_iload hx hb dX12_copyRow_3 (lv_at hl 0 rfl) ?_
  refine lv_iload_n hx hb dX12_copyRow_5 rfl (lv_at hl 2 rfl) ?_
  refine lv_icmp_ge (tgt := 31) hx hb dX12_copyRow_6 (by decide) (fun h_3 => ?_) (fun h_3 => ?_)
  · skip
    have zh_3 : 24 ≤ i.toInt := z_le h_3
    have hP9 := hP.sub (ws' := [(ra, .inl (k 0, 120, .inl gf))]) [0] rfl
    have hD9 := hD.sub (ws' := [(ra, .inl (k 0, 120, .inl gf))]) [0] (by decide) rfl
    exact W.vret hx hb hr (fun tZ ht hW => ⟨⟨gf, rfl, hz, by rw [ht]; exact hP9, va_K.moved hW.alike hK, hD9⟩, hS.F ht⟩) hS.2.2 dX12_copyRow_31
  · skip
    have zh_3 : i.toInt < 24 := z_nle h_3
    refine lv_aload_n hx hb dX12_copyRow_9 rfl (lv_at hl 1 rfl) ?_
    refine lv_iload_n hx hb dX12_copyRow_10 rfl (lv_at hl 2 rfl) ?_
    refine lv_iload_n hx hb dX12_copyRow_11 rfl (lv_at hl 4 rfl) ?_
    refine lv_imul hx hb dX12_copyRow_12 ?_
    refine lv_topi (fun x_4 ex_4 => ?_)
    obtain rfl : x_4 = 48 := ex_4.trans (by decide)
    refine lv_iload hx hb dX12_copyRow_13 (lv_at hl 0 rfl) ?_
    refine lv_iadd hx hb dX12_copyRow_15 ?_
    refine lv_topi (fun x_5 ex_5 => ?_)
    have zx_5 : x_5.toInt = 48 + i.toInt := by rw [ex_5]; exact z_add rfl rfl (by omega) (by omega)
    refine lv_aload_n hx hb dX12_copyRow_16 rfl (lv_at hl 1 rfl) ?_
    refine lv_iload_n hx hb dX12_copyRow_17 rfl (lv_at hl 2 rfl) ?_
    refine lv_iload_n hx hb dX12_copyRow_18 rfl (lv_at hl 3 rfl) ?_
    refine lv_imul hx hb dX12_copyRow_19 ?_
    refine lv_topi (fun x_6 ex_6 => ?_)
    obtain rfl : x_6 = 0 := ex_6.trans (by decide)
    refine lv_iload hx hb dX12_copyRow_20 (lv_at hl 0 rfl) ?_
    refine lv_iadd hx hb dX12_copyRow_22 ?_
    refine lv_topi (fun x_7 ex_7 => ?_)
    have zx_7 : x_7.toInt = 0 + i.toInt := by rw [ex_7]; exact z_add rfl rfl (by omega) (by omega)
    refine va_iald hx hb hK hP 0 0 rfl rfl (z_in (by omega) (by omega)) dX12_copyRow_23 ?_
    refine lv_topi (fun x_8 ex_8 => ?_)
    refine va_iast hx hb hK hP hD hS 0 0 rfl rfl (z_in (by omega) (by omega)) dX12_copyRow_24 (fun H locs hP hD hS => ?_)
    have hP : va_P D vwCl [(ra, .inl (k 0, 120, .inl (upd gf x_5.toNatClampNeg x_8)))] H := hP
    have hD : va_D A [(ra, .inl (k 0, 120, .inl (upd gf x_5.toNatClampNeg x_8)))] := hD
    obtain ⟨x_9, ex_9⟩ : ∃ y : Int32, y = i + 1 := ⟨_, rfl⟩
    have zx_9 : x_9.toInt = i.toInt + 1 := by rw [ex_9]; exact z_add rfl rfl (by omega) (by omega)
    refine lv_iinc (v := x_9) (lv' := [(4, .int x_9), (0, .ref ra), (1, .int 24), (2, .int 0), (3, .int 2)]) hx hb dX12_copyRow_25 hl (k := 0) rfl (by rw [ex_9]; rfl) (by decide) rfl (fun ls hl => ?_)
    refine lv_goto (tgt := 3) hx hb dX12_copyRow_28 (by decide) ?_
    exact ih_1 _ _ _ _ (by omega) ⟨x_9, (upd gf x_5.toNatClampNeg x_8), rfl, (show 0 ≤ x_9.toInt from by omega), (show x_9.toInt ≤ 24 from by omega), (fun h => updx (hz h) (ex_8.trans (hz h _))), hP.sub (ws' := [(ra, .inl (k 0, 120, .inl (upd gf x_5.toNatClampNeg x_8)))]) [0] rfl, hD.sub (ws' := [(ra, .inl (k 0, 120, .inl (upd gf x_5.toNatClampNeg x_8)))]) [0] (by decide) rfl, hS, lv_sub hl [0, 1, 2, 3, 4] rfl⟩
set_option maxHeartbeats 4000000 in
set_option maxRecDepth 100000 in
theorem c_X12_copyRow_20_0_2 (l : Launch) (D : va_G) (k : Nat → ClassId) (ra : Nat) (f : Nat → Int32) (sz : Nat) : Met l yX12_copyRow (ww yX12_copyRow cX12_copyRow 5 none) ({ frames := 0, cells := 0, slots := 0, locals := 0 }) (Pre0 D k [(ra, .inl (k 0, 20, .inl f))] sz [.ref ra, .int 4, .int 0, .int 2]) (va_Qv (fun (f2 : (Nat → Int32)) => (∀ j : Nat, f j = (0 : Int32)) → ∀ j : Nat, f2 j = (0 : Int32)) (fun (f2 : (Nat → Int32)) tZ => Bw D k (va_A [(ra, .inl (k 0, 20, .inl f))] sz) [(ra, .inl (k 0, 20, .inl f2))] tZ) (va_A [(ra, .inl (k 0, 20, .inl f))] sz)) 0 0 (va_A [(ra, .inl (k 0, 20, .inl f))] sz) := by
  refine Met.ofW (cc := cX12_copyRow) (maxL := 5) (ret := none) (by decide +kernel) rfl ?_
  intro p e s m args below meth c s₁ B hml hv
  obtain ⟨rfl, hsz, hP, hK, hD0, hN⟩ := hv
  have hx := B.exec
  have hb := B.bytes
  have hr := B.returns
  have hts : ∀ w ∈ TT, w.before _ s = true := fun w h => atoms_spec (ws := ww yX12_copyRow cX12_copyRow 5 none) B.pre w (List.mem_cons_of_mem _ h)
  have hown : s.vm.findClass RX12 = some m.cls := findClass_of_methodNamed B.named
  have hlocks := B.notSynchronized
  subst hsz
  have hD := hD0.self (sz := s.heap.size)
  generalize hAe : va_A [(ra, .inl (k 0, 20, .inl f))] s.heap.size = A at hD ⊢
  have hA : ∀ q : Nat, s.heap.size ≤ q → A q := fun q h => by rw [← hAe]; exact Or.inr h
  have hS : va_S A s.heap s.heap [] := va_S.rf
  have hl := lv_entry ([.ref ra, .int 4, .int 0, .int 2]) (n := 5) (Nat.le_of_ble_eq_true rfl)
  rw [lg_entry_eq]
  generalize (lg_sl ([.ref ra, .int 4, .int 0, .int 2]) ++ List.replicate (5 - (lg_sl ([.ref ra, .int 4, .int 0, .int 2])).length) Slot.unset).toArray = ls at hl ⊢
  have hl : lv_has ls 5 [(0, .ref ra), (1, .int 4), (2, .int 0), (3, .int 2)] := hl
  refine lv_iconst (v := 0) hx hb dX12_copyRow_0 (by decide) ?_
  refine lv_istore (lv' := [(4, .int 0), (0, .ref ra), (1, .int 4), (2, .int 0), (3, .int 2)]) hx hb dX12_copyRow_1 hl (by decide) rfl (fun ls hl => ?_)
  refine loop_r (Wg := fun H locs ls => W p l e _ s m _ below meth c H locs _ _ _ (F0 m 3 ls [])) (fun n9 H locs ls => ∃ (i : Int32) (gf : Nat → Int32), n9 = (4 - i.toInt).toNat ∧ (0 ≤ i.toInt) ∧ (i.toInt ≤ 4) ∧ ((∀ j : Nat, f j = (0 : Int32)) → ∀ j : Nat, gf j = (0 : Int32)) ∧ va_P D vwCl [(ra, .inl (k 0, 20, .inl gf))] H ∧ va_D A [(ra, .inl (k 0, 20, .inl gf))] ∧ va_S A s.heap H locs ∧ lv_has ls 5 [(4, .int i), (0, .ref ra), (1, .int 4), (2, .int 0), (3, .int 2)]) (fun n9 H locs ls hI ih_1 => ?_) _ _ _ _ ⟨0, f, rfl, (show 0 ≤ 0 from by omega), (show 0 ≤ 4 from by omega), (fun h => h), hP.sub (ws' := [(ra, .inl (k 0, 20, .inl f))]) [0] rfl, hD.sub (ws' := [(ra, .inl (k 0, 20, .inl f))]) [0] (by decide) rfl, hS, lv_sub hl [0, 1, 2, 3, 4] rfl⟩
  clear hP hD hS hl
  obtain ⟨i, gf, en_2, hi1, hi2, hz, hP, hD, hS, hl⟩ := hI
  refine lv_iload hx hb dX12_copyRow_3 (lv_at hl 0 rfl) ?_
  refine lv_iload_n hx hb dX12_copyRow_5 rfl (lv_at hl 2 rfl) ?_
  refine lv_icmp_ge (tgt := 31) hx hb dX12_copyRow_6 (by decide) (fun h_3 => ?_) (fun h_3 => ?_)
  · skip
    have zh_3 : 4 ≤ i.toInt := z_le h_3
    have hP9 := hP.sub (ws' := [(ra, .inl (k 0, 20, .inl gf))]) [0] rfl
    have hD9 := hD.sub (ws' := [(ra, .inl (k 0, 20, .inl gf))]) [0] (by decide) rfl
    exact W.vret hx hb hr (fun tZ ht hW => ⟨⟨gf, rfl, hz, by rw [ht]; exact hP9, va_K.moved hW.alike hK, hD9⟩, hS.F ht⟩) hS.2.2 dX12_copyRow_31
  · skip
    have zh_3 : i.toInt < 4 := z_nle h_3
    refine lv_aload_n hx hb dX12_copyRow_9 rfl (lv_at hl 1 rfl) ?_
    refine lv_iload_n hx hb dX12_copyRow_10 rfl (lv_at hl 2 rfl) ?_
    refine lv_iload_n hx hb dX12_copyRow_11 rfl (lv_at hl 4 rfl) ?_
    refine lv_imul hx hb dX12_copyRow_12 ?_
    refine lv_topi (fun x_4 ex_4 => ?_)
    obtain rfl : x_4 = 8 := ex_4.trans (by decide)
    refine lv_iload hx hb dX12_copyRow_13 (lv_at hl 0 rfl) ?_
    refine lv_iadd hx hb dX12_copyRow_15 ?_
    refine lv_topi (fun x_5 ex_5 => ?_)
    have zx_5 : x_5.toInt = 8 + i.toInt := by rw [ex_5]; exact z_add rfl rfl (by omega) (by omega)
    refine lv_aload_n hx hb dX12_copyRow_16 rfl (lv_at hl 1 rfl) ?_
    refine lv_iload_n hx hb dX12_copyRow_17 rfl (lv_at hl 2 rfl) ?_
    refine lv_iload_n hx hb dX12_copyRow_18 rfl (lv_at hl 3 rfl) ?_
    refine lv_imul hx hb dX12_copyRow_19 ?_
    refine lv_topi (fun x_6 ex_6 => ?_)
    obtain rfl : x_6 = 0 := ex_6.trans (by decide)
    refine lv_iload hx hb dX12_copyRow_20 (lv_at hl 0 rfl) ?_
    refine lv_iadd hx hb dX12_copyRow_22 ?_
    refine lv_topi (fun x_7 ex_7 => ?_)
    have zx_7 : x_7.toInt = 0 + i.toInt := by rw [ex_7]; exact z_add rfl rfl (by omega) (by omega)
    refine va_iald hx hb hK hP 0 0 rfl rfl (z_in (by omega) (by omega)) dX12_copyRow_23 ?_
    refine lv_topi (fun x_8 ex_8 => ?_)
    refine va_iast hx hb hK hP hD hS 0 0 rfl rfl (z_in (by omega) (by omega)) dX12_copyRow_24 (fun H locs hP hD hS => ?_)
    have hP : va_P D vwCl [(ra, .inl (k 0, 20, .inl (upd gf x_5.toNatClampNeg x_8)))] H := hP
    have hD : va_D A [(ra, .inl (k 0, 20, .inl (upd gf x_5.toNatClampNeg x_8)))] := hD
    obtain ⟨x_9, ex_9⟩ : ∃ y : Int32, y = i + 1 := ⟨_, rfl⟩
    have zx_9 : x_9.toInt = i.toInt + 1 := by rw [ex_9]; exact z_add rfl rfl (by omega) (by omega)
    refine lv_iinc (v := x_9) (lv' := [(4, .int x_9), (0, .ref ra), (1, .int 4), (2, .int 0), (3, .int 2)]) hx hb dX12_copyRow_25 hl (k := 0) rfl (by rw [ex_9]; rfl) (by decide) rfl (fun ls hl => ?_)
    refine lv_goto (tgt := 3) hx hb dX12_copyRow_28 (by decide) ?_
    exact ih_1 _ _ _ _ (by omega) ⟨x_9, (upd gf x_5.toNatClampNeg x_8), rfl, (show 0 ≤ x_9.toInt from by omega), (show x_9.toInt ≤ 4 from by omega), (fun h => updx (hz h) (ex_8.trans (hz h _))), hP.sub (ws' := [(ra, .inl (k 0, 20, .inl (upd gf x_5.toNatClampNeg x_8)))]) [0] rfl, hD.sub (ws' := [(ra, .inl (k 0, 20, .inl (upd gf x_5.toNatClampNeg x_8)))]) [0] (by decide) rfl, hS, lv_sub hl [0, 1, 2, 3, 4] rfl⟩
set_option maxHeartbeats 4000000 in
set_option maxRecDepth 100000 in
theorem c_X12_copyRow_600_0_2 (l : Launch) (D : va_G) (k : Nat → ClassId) (ra : Nat) (f : Nat → Int32) (sz : Nat) : Met l yX12_copyRow (ww yX12_copyRow cX12_copyRow 5 none) ({ frames := 0, cells := 0, slots := 0, locals := 0 }) (Pre0 D k [(ra, .inl (k 0, 600, .inl f))] sz [.ref ra, .int 120, .int 0, .int 2]) (va_Qv (fun (f2 : (Nat → Int32)) => (∀ j : Nat, f j = (0 : Int32)) → ∀ j : Nat, f2 j = (0 : Int32)) (fun (f2 : (Nat → Int32)) tZ => Bw D k (va_A [(ra, .inl (k 0, 600, .inl f))] sz) [(ra, .inl (k 0, 600, .inl f2))] tZ) (va_A [(ra, .inl (k 0, 600, .inl f))] sz)) 0 0 (va_A [(ra, .inl (k 0, 600, .inl f))] sz) := by
  refine Met.ofW (cc := cX12_copyRow) (maxL := 5) (ret := none) (by decide +kernel) rfl ?_
  intro p e s m args below meth c s₁ B hml hv
  obtain ⟨rfl, hsz, hP, hK, hD0, hN⟩ := hv
  have hx := B.exec
  have hb := B.bytes
  have hr := B.returns
  have hts : ∀ w ∈ TT, w.before _ s = true := fun w h => atoms_spec (ws := ww yX12_copyRow cX12_copyRow 5 none) B.pre w (List.mem_cons_of_mem _ h)
  have hown : s.vm.findClass RX12 = some m.cls := findClass_of_methodNamed B.named
  have hlocks := B.notSynchronized
  subst hsz
  have hD := hD0.self (sz := s.heap.size)
  generalize hAe : va_A [(ra, .inl (k 0, 600, .inl f))] s.heap.size = A at hD ⊢
  have hA : ∀ q : Nat, s.heap.size ≤ q → A q := fun q h => by rw [← hAe]; exact Or.inr h
  have hS : va_S A s.heap s.heap [] := va_S.rf
  have hl := lv_entry ([.ref ra, .int 120, .int 0, .int 2]) (n := 5) (Nat.le_of_ble_eq_true rfl)
  rw [lg_entry_eq]
  generalize (lg_sl ([.ref ra, .int 120, .int 0, .int 2]) ++ List.replicate (5 - (lg_sl ([.ref ra, .int 120, .int 0, .int 2])).length) Slot.unset).toArray = ls at hl ⊢
  have hl : lv_has ls 5 [(0, .ref ra), (1, .int 120), (2, .int 0), (3, .int 2)] := hl
  refine lv_iconst (v := 0) hx hb dX12_copyRow_0 (by decide) ?_
  refine lv_istore (lv' := [(4, .int 0), (0, .ref ra), (1, .int 120), (2, .int 0), (3, .int 2)]) hx hb dX12_copyRow_1 hl (by decide) rfl (fun ls hl => ?_)
  refine loop_r (Wg := fun H locs ls => W p l e _ s m _ below meth c H locs _ _ _ (F0 m 3 ls [])) (fun n9 H locs ls => ∃ (i : Int32) (gf : Nat → Int32), n9 = (120 - i.toInt).toNat ∧ (0 ≤ i.toInt) ∧ (i.toInt ≤ 120) ∧ ((∀ j : Nat, f j = (0 : Int32)) → ∀ j : Nat, gf j = (0 : Int32)) ∧ va_P D vwCl [(ra, .inl (k 0, 600, .inl gf))] H ∧ va_D A [(ra, .inl (k 0, 600, .inl gf))] ∧ va_S A s.heap H locs ∧ lv_has ls 5 [(4, .int i), (0, .ref ra), (1, .int 120), (2, .int 0), (3, .int 2)]) (fun n9 H locs ls hI ih_1 => ?_) _ _ _ _ ⟨0, f, rfl, (show 0 ≤ 0 from by omega), (show 0 ≤ 120 from by omega), (fun h => h), hP.sub (ws' := [(ra, .inl (k 0, 600, .inl f))]) [0] rfl, hD.sub (ws' := [(ra, .inl (k 0, 600, .inl f))]) [0] (by decide) rfl, hS, lv_sub hl [0, 1, 2, 3, 4] rfl⟩
  clear hP hD hS hl
  obtain ⟨i, gf, en_2, hi1, hi2, hz, hP, hD, hS, hl⟩ := hI
  refine lv_iload hx hb dX12_copyRow_3 (lv_at hl 0 rfl) ?_
  refine lv_iload_n hx hb dX12_copyRow_5 rfl (lv_at hl 2 rfl) ?_
  refine lv_icmp_ge (tgt := 31) hx hb dX12_copyRow_6 (by decide) (fun h_3 => ?_) (fun h_3 => ?_)
  · skip
    have zh_3 : 120 ≤ i.toInt := z_le h_3
    have hP9 := hP.sub (ws' := [(ra, .inl (k 0, 600, .inl gf))]) [0] rfl
    have hD9 := hD.sub (ws' := [(ra, .inl (k 0, 600, .inl gf))]) [0] (by decide) rfl
    exact W.vret hx hb hr (fun tZ ht hW => ⟨⟨gf, rfl, hz, by rw [ht]; exact hP9, va_K.moved hW.alike hK, hD9⟩, hS.F ht⟩) hS.2.2 dX12_copyRow_31
  · skip
    have zh_3 : i.toInt < 120 := z_nle h_3
    refine lv_aload_n hx hb dX12_copyRow_9 rfl (lv_at hl 1 rfl) ?_
    refine lv_iload_n hx hb dX12_copyRow_10 rfl (lv_at hl 2 rfl) ?_
    refine lv_iload_n hx hb dX12_copyRow_11 rfl (lv_at hl 4 rfl) ?_
    refine lv_imul hx hb dX12_copyRow_12 ?_
    refine lv_topi (fun x_4 ex_4 => ?_)
    obtain rfl : x_4 = 240 := ex_4.trans (by decide)
    refine lv_iload hx hb dX12_copyRow_13 (lv_at hl 0 rfl) ?_
    refine lv_iadd hx hb dX12_copyRow_15 ?_
    refine lv_topi (fun x_5 ex_5 => ?_)
    have zx_5 : x_5.toInt = 240 + i.toInt := by rw [ex_5]; exact z_add rfl rfl (by omega) (by omega)
    refine lv_aload_n hx hb dX12_copyRow_16 rfl (lv_at hl 1 rfl) ?_
    refine lv_iload_n hx hb dX12_copyRow_17 rfl (lv_at hl 2 rfl) ?_
    refine lv_iload_n hx hb dX12_copyRow_18 rfl (lv_at hl 3 rfl) ?_
    refine lv_imul hx hb dX12_copyRow_19 ?_
    refine lv_topi (fun x_6 ex_6 => ?_)
    obtain rfl : x_6 = 0 := ex_6.trans (by decide)
    refine lv_iload hx hb dX12_copyRow_20 (lv_at hl 0 rfl) ?_
    refine lv_iadd hx hb dX12_copyRow_22 ?_
    refine lv_topi (fun x_7 ex_7 => ?_)
    have zx_7 : x_7.toInt = 0 + i.toInt := by rw [ex_7]; exact z_add rfl rfl (by omega) (by omega)
    refine va_iald hx hb hK hP 0 0 rfl rfl (z_in (by omega) (by omega)) dX12_copyRow_23 ?_
    refine lv_topi (fun x_8 ex_8 => ?_)
    refine va_iast hx hb hK hP hD hS 0 0 rfl rfl (z_in (by omega) (by omega)) dX12_copyRow_24 (fun H locs hP hD hS => ?_)
    have hP : va_P D vwCl [(ra, .inl (k 0, 600, .inl (upd gf x_5.toNatClampNeg x_8)))] H := hP
    have hD : va_D A [(ra, .inl (k 0, 600, .inl (upd gf x_5.toNatClampNeg x_8)))] := hD
    obtain ⟨x_9, ex_9⟩ : ∃ y : Int32, y = i + 1 := ⟨_, rfl⟩
    have zx_9 : x_9.toInt = i.toInt + 1 := by rw [ex_9]; exact z_add rfl rfl (by omega) (by omega)
    refine lv_iinc (v := x_9) (lv' := [(4, .int x_9), (0, .ref ra), (1, .int 120), (2, .int 0), (3, .int 2)]) hx hb dX12_copyRow_25 hl (k := 0) rfl (by rw [ex_9]; rfl) (by decide) rfl (fun ls hl => ?_)
    refine lv_goto (tgt := 3) hx hb dX12_copyRow_28 (by decide) ?_
    exact ih_1 _ _ _ _ (by omega) ⟨x_9, (upd gf x_5.toNatClampNeg x_8), rfl, (show 0 ≤ x_9.toInt from by omega), (show x_9.toInt ≤ 120 from by omega), (fun h => updx (hz h) (ex_8.trans (hz h _))), hP.sub (ws' := [(ra, .inl (k 0, 600, .inl (upd gf x_5.toNatClampNeg x_8)))]) [0] rfl, hD.sub (ws' := [(ra, .inl (k 0, 600, .inl (upd gf x_5.toNatClampNeg x_8)))]) [0] (by decide) rfl, hS, lv_sub hl [0, 1, 2, 3, 4] rfl⟩
set_option maxHeartbeats 4000000 in
set_option maxRecDepth 100000 in
theorem c_X12_copyTown_0_2 (l : Launch) (D : va_G) (k : Nat → ClassId) (mo : Nat) (m1 : Nat) (m2 : Nat) (m3 : Nat) (m4 : Nat) (m5 : Nat) (m16 : Nat) (m17 : Nat) (m18 : Nat) (m19 : Nat) (m20 : Nat) (m21 : Nat) (m22 : Nat) (m23 : Nat) (m25 : Nat) (m26 : Nat) (m27 : Nat) (m28 : Nat) (m29 : Nat) (m31 : Nat) (m32 : Nat) (m33 : Nat) (m37 : Nat) (m38 : Nat) (m39 : Nat) (m40 : Nat) (f16 : Nat → Int32) (f17 : Nat → Int32) (f18 : Nat → Int32) (f19 : Nat → Int32) (f20 : Nat → Int32) (f21 : Nat → Int32) (f22 : Nat → Int32) (sz : Nat) : Met l yX12_copyTown (ww yX12_copyTown cX12_copyTown 3 none) ({ frames := 1, cells := 0, slots := 0, locals := 24 }) (Pre0 D k [(mo, .inr (12, [.int 0, .ref m1, .ref m2, .ref m3, .ref m4, .ref m5, .int 0, .int 0, .int 0, .int 0, .int 0, .long 0, .int 0, .int 0, .int 0, .int (-1), .ref m16, .ref m17, .ref m18, .ref m19, .ref m20, .ref m21, .ref m22, .ref m23, .int 0, .ref m25, .ref m26, .ref m27, .ref m28, .ref m29, .int 0, .ref m31, .ref m32, .ref m33, .int 0, .int 0, .int 0, .ref m37, .ref m38, .ref m39, .ref m40, .long 0])), (m16, .inl (k 0, 5, .inl f16)), (m17, .inl (k 0, 30, .inl f17)), (m18, .inl (k 0, 250, .inl f18)), (m19, .inl (k 0, 40, .inl f19)), (m20, .inl (k 0, 120, .inl f20)), (m21, .inl (k 0, 20, .inl f21)), (m22, .inl (k 0, 600, .inl f22))] sz [.ref mo, .int 0, .int 2]) (va_Qv (fun (u : (Nat → Int32) × (Nat → Int32) × (Nat → Int32) × (Nat → Int32) × (Nat → Int32) × (Nat → Int32) × (Nat → Int32)) => match u with | (o16, o17, o18, o19, o20, o21, o22) => (∀ j : Nat, f16 j = (0 : Int32)) → ∀ j : Nat, o16 j = (0 : Int32)) (fun (u : (Nat → Int32) × (Nat → Int32) × (Nat → Int32) × (Nat → Int32) × (Nat → Int32) × (Nat → Int32) × (Nat → Int32)) tZ => match u with | (o16, o17, o18, o19, o20, o21, o22) => Bw D k (va_A [(mo, .inr (12, [.int 0, .ref m1, .ref m2, .ref m3, .ref m4, .ref m5, .int 0, .int 0, .int 0, .int 0, .int 0, .long 0, .int 0, .int 0, .int 0, .int (-1), .ref m16, .ref m17, .ref m18, .ref m19, .ref m20, .ref m21, .ref m22, .ref m23, .int 0, .ref m25, .ref m26, .ref m27, .ref m28, .ref m29, .int 0, .ref m31, .ref m32, .ref m33, .int 0, .int 0, .int 0, .ref m37, .ref m38, .ref m39, .ref m40, .long 0])), (m16, .inl (k 0, 5, .inl f16)), (m17, .inl (k 0, 30, .inl f17)), (m18, .inl (k 0, 250, .inl f18)), (m19, .inl (k 0, 40, .inl f19)), (m20, .inl (k 0, 120, .inl f20)), (m21, .inl (k 0, 20, .inl f21)), (m22, .inl (k 0, 600, .inl f22))] sz) [(mo, .inr (12, [.int 0, .ref m1, .ref m2, .ref m3, .ref m4, .ref m5, .int 0, .int 0, .int 0, .int 0, .int 0, .long 0, .int 0, .int 0, .int 0, .int (-1), .ref m16, .ref m17, .ref m18, .ref m19, .ref m20, .ref m21, .ref m22, .ref m23, .int 0, .ref m25, .ref m26, .ref m27, .ref m28, .ref m29, .int 0, .ref m31, .ref m32, .ref m33, .int 0, .int 0, .int 0, .ref m37, .ref m38, .ref m39, .ref m40, .long 0])), (m16, .inl (k 0, 5, .inl o16)), (m17, .inl (k 0, 30, .inl o17)), (m18, .inl (k 0, 250, .inl o18)), (m19, .inl (k 0, 40, .inl o19)), (m20, .inl (k 0, 120, .inl o20)), (m21, .inl (k 0, 20, .inl o21)), (m22, .inl (k 0, 600, .inl o22))] tZ) (va_A [(mo, .inr (12, [.int 0, .ref m1, .ref m2, .ref m3, .ref m4, .ref m5, .int 0, .int 0, .int 0, .int 0, .int 0, .long 0, .int 0, .int 0, .int 0, .int (-1), .ref m16, .ref m17, .ref m18, .ref m19, .ref m20, .ref m21, .ref m22, .ref m23, .int 0, .ref m25, .ref m26, .ref m27, .ref m28, .ref m29, .int 0, .ref m31, .ref m32, .ref m33, .int 0, .int 0, .int 0, .ref m37, .ref m38, .ref m39, .ref m40, .long 0])), (m16, .inl (k 0, 5, .inl f16)), (m17, .inl (k 0, 30, .inl f17)), (m18, .inl (k 0, 250, .inl f18)), (m19, .inl (k 0, 40, .inl f19)), (m20, .inl (k 0, 120, .inl f20)), (m21, .inl (k 0, 20, .inl f21)), (m22, .inl (k 0, 600, .inl f22))] sz)) 0 0 (va_A [(mo, .inr (12, [.int 0, .ref m1, .ref m2, .ref m3, .ref m4, .ref m5, .int 0, .int 0, .int 0, .int 0, .int 0, .long 0, .int 0, .int 0, .int 0, .int (-1), .ref m16, .ref m17, .ref m18, .ref m19, .ref m20, .ref m21, .ref m22, .ref m23, .int 0, .ref m25, .ref m26, .ref m27, .ref m28, .ref m29, .int 0, .ref m31, .ref m32, .ref m33, .int 0, .int 0, .int 0, .ref m37, .ref m38, .ref m39, .ref m40, .long 0])), (m16, .inl (k 0, 5, .inl f16)), (m17, .inl (k 0, 30, .inl f17)), (m18, .inl (k 0, 250, .inl f18)), (m19, .inl (k 0, 40, .inl f19)), (m20, .inl (k 0, 120, .inl f20)), (m21, .inl (k 0, 20, .inl f21)), (m22, .inl (k 0, 600, .inl f22))] sz) := by
  refine Met.ofW (cc := cX12_copyTown) (maxL := 3) (ret := none) (by decide +kernel) rfl ?_
  intro p e s m args below meth c s₁ B hml hv
  obtain ⟨rfl, hsz, hP, hK, hD0, hN⟩ := hv
  have hx := B.exec
  have hb := B.bytes
  have hr := B.returns
  have hts : ∀ w ∈ TT, w.before _ s = true := fun w h => atoms_spec (ws := ww yX12_copyTown cX12_copyTown 3 none) B.pre w (List.mem_cons_of_mem _ h)
  have hown : s.vm.findClass RX12 = some m.cls := findClass_of_methodNamed B.named
  have hlocks := B.notSynchronized
  subst hsz
  have hD := hD0.self (sz := s.heap.size)
  generalize hAe : va_A [(mo, .inr (12, [.int 0, .ref m1, .ref m2, .ref m3, .ref m4, .ref m5, .int 0, .int 0, .int 0, .int 0, .int 0, .long 0, .int 0, .int 0, .int 0, .int (-1), .ref m16, .ref m17, .ref m18, .ref m19, .ref m20, .ref m21, .ref m22, .ref m23, .int 0, .ref m25, .ref m26, .ref m27, .ref m28, .ref m29, .int 0, .ref m31, .ref m32, .ref m33, .int 0, .int 0, .int 0, .ref m37, .ref m38, .ref m39, .ref m40, .long 0])), (m16, .inl (k 0, 5, .inl f16)), (m17, .inl (k 0, 30, .inl f17)), (m18, .inl (k 0, 250, .inl f18)), (m19, .inl (k 0, 40, .inl f19)), (m20, .inl (k 0, 120, .inl f20)), (m21, .inl (k 0, 20, .inl f21)), (m22, .inl (k 0, 600, .inl f22))] s.heap.size = A at hD ⊢
  have hA : ∀ q : Nat, s.heap.size ≤ q → A q := fun q h => by rw [← hAe]; exact Or.inr h
  have hS : va_S A s.heap s.heap [] := va_S.rf
  have hl := lv_entry ([.ref mo, .int 0, .int 2]) (n := 3) (Nat.le_of_ble_eq_true rfl)
  rw [lg_entry_eq]
  generalize (lg_sl ([.ref mo, .int 0, .int 2]) ++ List.replicate (3 - (lg_sl ([.ref mo, .int 0, .int 2])).length) Slot.unset).toArray = ls at hl ⊢
  have hl : lv_has ls 3 [(0, .ref mo), (1, .int 0), (2, .int 2)] := hl
  refine lv_aload_n hx hb dX12_copyTown_0 rfl (lv_at hl 0 rfl) ?_
  refine va_get (D := D) (ci := 12) (v := .ref m16) (C := RX12) (T := TX12) (N := 42) hx hb hts iT_X12 hown hK hP 0 rfl rfl 16 (by decide) (hts _ tw_6_69) (fun _ h9 => h9) rfl dX12_copyTown_1 ?_
  refine lv_iconst (v := 1) hx hb dX12_copyTown_4 (by decide) ?_
  refine lv_iload_n hx hb dX12_copyTown_5 rfl (lv_at hl 1 rfl) ?_
  refine lv_iload_n hx hb dX12_copyTown_6 rfl (lv_at hl 2 rfl) ?_
  have hPc := hP.sub (ws' := [(m16, .inl (k 0, 5, .inl f16))]) [1] rfl
  have hDc := hD.sub (ws' := [(m16, .inl (k 0, 5, .inl f16))]) [1] (by decide) rfl
  have hFc := va_free (wc := [(m16, .inl (k 0, 5, .inl f16))]) hD hS hA [1] rfl
  refine va_callv (va_runS (As := [.ref m16, .int 1, .int 0, .int 2]) (rest := []) ⟨hx, hb, hml, hown, hts⟩ (c_X12_copyRow_5_0_2 l D k m16 f16 s.heap.size) (va_cwS 4 hts (gS tw_7_91 tw_7_92 tw_1_13 tw_7_93) rfl rfl rfl hdS_X12_copyRow ⟨Nat.le_of_ble_eq_true rfl, Nat.le_of_ble_eq_true rfl⟩) (cz_S hK hPc hDc hN [.ref m16, .int 1, .int 0, .int 2]) rfl rfl hl.1 rfl (lv_room (Nat.le_of_ble_eq_true rfl)) dX12_copyTown_7 ⟨Nat.le_of_ble_eq_true rfl, Nat.le_of_ble_eq_true rfl⟩) hS (fun q _ h => hFc q h) hFc (fun uZ tZ H1 locs ht hvm hw hB hz1 hk1 hS => ?_)
  obtain ⟨o_2, rfl⟩ : ∃ z, z = uZ := ⟨_, rfl⟩
  obtain ⟨hP1, hK1, hD1⟩ := hB
  rw [ht] at hP1
  obtain ⟨hP, hD⟩ := va_join (wr := [(mo, .inr (12, [.int 0, .ref m1, .ref m2, .ref m3, .ref m4, .ref m5, .int 0, .int 0, .int 0, .int 0, .int 0, .long 0, .int 0, .int 0, .int 0, .int (-1), .ref m16, .ref m17, .ref m18, .ref m19, .ref m20, .ref m21, .ref m22, .ref m23, .int 0, .ref m25, .ref m26, .ref m27, .ref m28, .ref m29, .int 0, .ref m31, .ref m32, .ref m33, .int 0, .int 0, .int 0, .ref m37, .ref m38, .ref m39, .ref m40, .long 0])), (m17, .inl (k 0, 30, .inl f17)), (m18, .inl (k 0, 250, .inl f18)), (m19, .inl (k 0, 40, .inl f19)), (m20, .inl (k 0, 120, .inl f20)), (m21, .inl (k 0, 20, .inl f21)), (m22, .inl (k 0, 600, .inl f22))]) (w1 := [(m16, .inl (k 0, 5, .inl o_2))]) hP hD [1] [0, 2, 3, 4, 5, 6, 7] rfl rfl (by decide) (by decide) hk1 hFc hP1 hD1
  clear hK1 hP1 hD1 hPc hDc hFc
  clear hk1 hz1 ht hvm
  have hP : va_P D vwCl [(mo, .inr (12, [.int 0, .ref m1, .ref m2, .ref m3, .ref m4, .ref m5, .int 0, .int 0, .int 0, .int 0, .int 0, .long 0, .int 0, .int 0, .int 0, .int (-1), .ref m16, .ref m17, .ref m18, .ref m19, .ref m20, .ref m21, .ref m22, .ref m23, .int 0, .ref m25, .ref m26, .ref m27, .ref m28, .ref m29, .int 0, .ref m31, .ref m32, .ref m33, .int 0, .int 0, .int 0, .ref m37, .ref m38, .ref m39, .ref m40, .long 0])), (m17, .inl (k 0, 30, .inl f17)), (m18, .inl (k 0, 250, .inl f18)), (m19, .inl (k 0, 40, .inl f19)), (m20, .inl (k 0, 120, .inl f20)), (m21, .inl (k 0, 20, .inl f21)), (m22, .inl (k 0, 600, .inl f22)), (m16, .inl (k 0, 5, .inl o_2))] H1 := hP
  have hD : va_D A [(mo, .inr (12, [.int 0, .ref m1, .ref m2, .ref m3, .ref m4, .ref m5, .int 0, .int 0, .int 0, .int 0, .int 0, .long 0, .int 0, .int 0, .int 0, .int (-1), .ref m16, .ref m17, .ref m18, .ref m19, .ref m20, .ref m21, .ref m22, .ref m23, .int 0, .ref m25, .ref m26, .ref m27, .ref m28, .ref m29, .int 0, .ref m31, .ref m32, .ref m33, .int 0, .int 0, .int 0, .ref m37, .ref m38, .ref m39, .ref m40, .long 0])), (m17, .inl (k 0, 30, .inl f17)), (m18, .inl (k 0, 250, .inl f18)), (m19, .inl (k 0, 40, .inl f19)), (m20, .inl (k 0, 120, .inl f20)), (m21, .inl (k 0, 20, .inl f21)), (m22, .inl (k 0, 600, .inl f22)), (m16, .inl (k 0, 5, .inl o_2))] := hD
  generalize H1 = H at hP hS ⊢
  have hw_3 : (∀ j : Nat, f16 j = (0 : Int32)) → ∀ j : Nat, o_2 j = (0 : Int32) := hw
  clear hw
  refine lv_aload_n hx hb dX12_copyTown_10 rfl (lv_at hl 0 rfl) ?_
  refine va_get (D := D) (ci := 12) (v := .ref m17) (C := RX12) (T := TX12) (N := 42) hx hb hts iT_X12 hown hK hP 0 rfl rfl 17 (by decide) (hts _ tw_6_70) (fun _ h9 => h9) rfl dX12_copyTown_11 ?_
  refine lv_bipush (v := 6) hx hb dX12_copyTown_14 (by decide) ?_
  refine lv_iload_n hx hb dX12_copyTown_16 rfl (lv_at hl 1 rfl) ?_
  refine lv_iload_n hx hb dX12_copyTown_17 rfl (lv_at hl 2 rfl) ?_
  have hPc := hP.sub (ws' := [(m17, .inl (k 0, 30, .inl f17))]) [1] rfl
  have hDc := hD.sub (ws' := [(m17, .inl (k 0, 30, .inl f17))]) [1] (by decide) rfl
  have hFc := va_free (wc := [(m17, .inl (k 0, 30, .inl f17))]) hD hS hA [1] rfl
  refine va_callv (va_runS (As := [.ref m17, .int 6, .int 0, .int 2]) (rest := []) ⟨hx, hb, hml, hown, hts⟩ (c_X12_copyRow_30_0_2 l D k m17 f17 H.size) (va_cwS 4 hts (gS tw_7_91 tw_7_92 tw_1_13 tw_7_93) rfl rfl rfl hdS_X12_copyRow ⟨Nat.le_of_ble_eq_true rfl, Nat.le_of_ble_eq_true rfl⟩) (cz_S hK hPc hDc hN [.ref m17, .int 6, .int 0, .int 2]) rfl rfl hl.1 rfl (lv_room (Nat.le_of_ble_eq_true rfl)) dX12_copyTown_18 ⟨Nat.le_of_ble_eq_true rfl, Nat.le_of_ble_eq_true rfl⟩) hS (fun q _ h => hFc q h) hFc (fun uZ tZ H1 locs ht hvm hw hB hz1 hk1 hS => ?_)
  obtain ⟨o_5, rfl⟩ : ∃ z, z = uZ := ⟨_, rfl⟩
  obtain ⟨hP1, hK1, hD1⟩ := hB
  rw [ht] at hP1
  obtain ⟨hP, hD⟩ := va_join (wr := [(mo, .inr (12, [.int 0, .ref m1, .ref m2, .ref m3, .ref m4, .ref m5, .int 0, .int 0, .int 0, .int 0, .int 0, .long 0, .int 0, .int 0, .int 0, .int (-1), .ref m16, .ref m17, .ref m18, .ref m19, .ref m20, .ref m21, .ref m22, .ref m23, .int 0, .ref m25, .ref m26, .ref m27, .ref m28, .ref m29, .int 0, .ref m31, .ref m32, .ref m33, .int 0, .int 0, .int 0, .ref m37, .ref m38, .ref m39, .ref m40, .long 0])), (m18, .inl (k 0, 250, .inl f18)), (m19, .inl (k 0, 40, .inl f19)), (m20, .inl (k 0, 120, .inl f20)), (m21, .inl (k 0, 20, .inl f21)), (m22, .inl (k 0, 600, .inl f22)), (m16, .inl (k 0, 5, .inl o_2))]) (w1 := [(m17, .inl (k 0, 30, .inl o_5))]) hP hD [1] [0, 2, 3, 4, 5, 6, 7] rfl rfl (by decide) (by decide) hk1 hFc hP1 hD1
  clear hK1 hP1 hD1 hPc hDc hFc
  clear hk1 hz1 ht hvm
  have hP : va_P D vwCl [(mo, .inr (12, [.int 0, .ref m1, .ref m2, .ref m3, .ref m4, .ref m5, .int 0, .int 0, .int 0, .int 0, .int 0, .long 0, .int 0, .int 0, .int 0, .int (-1), .ref m16, .ref m17, .ref m18, .ref m19, .ref m20, .ref m21, .ref m22, .ref m23, .int 0, .ref m25, .ref m26, .ref m27, .ref m28, .ref m29, .int 0, .ref m31, .ref m32, .ref m33, .int 0, .int 0, .int 0, .ref m37, .ref m38, .ref m39, .ref m40, .long 0])), (m18, .inl (k 0, 250, .inl f18)), (m19, .inl (k 0, 40, .inl f19)), (m20, .inl (k 0, 120, .inl f20)), (m21, .inl (k 0, 20, .inl f21)), (m22, .inl (k 0, 600, .inl f22)), (m16, .inl (k 0, 5, .inl o_2)), (m17, .inl (k 0, 30, .inl o_5))] H1 := hP
  have hD : va_D A [(mo, .inr (12, [.int 0, .ref m1, .ref m2, .ref m3, .ref m4, .ref m5, .int 0, .int 0, .int 0, .int 0, .int 0, .long 0, .int 0, .int 0, .int 0, .int (-1), .ref m16, .ref m17, .ref m18, .ref m19, .ref m20, .ref m21, .ref m22, .ref m23, .int 0, .ref m25, .ref m26, .ref m27, .ref m28, .ref m29, .int 0, .ref m31, .ref m32, .ref m33, .int 0, .int 0, .int 0, .ref m37, .ref m38, .ref m39, .ref m40, .long 0])), (m18, .inl (k 0, 250, .inl f18)), (m19, .inl (k 0, 40, .inl f19)), (m20, .inl (k 0, 120, .inl f20)), (m21, .inl (k 0, 20, .inl f21)), (m22, .inl (k 0, 600, .inl f22)), (m16, .inl (k 0, 5, .inl o_2)), (m17, .inl (k 0, 30, .inl o_5))] := hD
  generalize H1 = H at hP hS ⊢
  have hw_6 : (∀ j : Nat, f17 j = (0 : Int32)) → ∀ j : Nat, o_5 j = (0 : Int32) := hw
  clear hw
  refine lv_aload_n hx hb dX12_copyTown_21 rfl (lv_at hl 0 rfl) ?_
  refine va_get (D := D) (ci := 12) (v := .ref m18) (C := RX12) (T := TX12) (N := 42) hx hb hts iT_X12 hown hK hP 0 rfl rfl 18 (by decide) (hts _ tw_6_71) (fun _ h9 => h9) rfl dX12_copyTown_22 ?_
  refine lv_bipush (v := 50) hx hb dX12_copyTown_25 (by decide) ?_
  refine lv_iload_n hx hb dX12_copyTown_27 rfl (lv_at hl 1 rfl) ?_
  refine lv_iload_n hx hb dX12_copyTown_28 rfl (lv_at hl 2 rfl) ?_
  have hPc := hP.sub (ws' := [(m18, .inl (k 0, 250, .inl f18))]) [1] rfl
  have hDc := hD.sub (ws' := [(m18, .inl (k 0, 250, .inl f18))]) [1] (by decide) rfl
  have hFc := va_free (wc := [(m18, .inl (k 0, 250, .inl f18))]) hD hS hA [1] rfl
  refine va_callv (va_runS (As := [.ref m18, .int 50, .int 0, .int 2]) (rest := []) ⟨hx, hb, hml, hown, hts⟩ (c_X12_copyRow_250_0_2 l D k m18 f18 H.size) (va_cwS 4 hts (gS tw_7_91 tw_7_92 tw_1_13 tw_7_93) rfl rfl rfl hdS_X12_copyRow ⟨Nat.le_of_ble_eq_true rfl, Nat.le_of_ble_eq_true rfl⟩) (cz_S hK hPc hDc hN [.ref m18, .int 50, .int 0, .int 2]) rfl rfl hl.1 rfl (lv_room (Nat.le_of_ble_eq_true rfl)) dX12_copyTown_29 ⟨Nat.le_of_ble_eq_true rfl, Nat.le_of_ble_eq_true rfl⟩) hS (fun q _ h => hFc q h) hFc (fun uZ tZ H1 locs ht hvm hw hB hz1 hk1 hS => ?_)
  obtain ⟨o_8, rfl⟩ : ∃ z, z = uZ := ⟨_, rfl⟩
  obtain ⟨hP1, hK1, hD1⟩ := hB
  rw [ht] at hP1
  obtain ⟨hP, hD⟩ := va_join (wr := [(mo, .inr (12, [.int 0, .ref m1, .ref m2, .ref m3, .ref m4, .ref m5, .int 0, .int 0, .int 0, .int 0, .int 0, .long 0, .int 0, .int 0, .int 0, .int (-1), .ref m16, .ref m17, .ref m18, .ref m19, .ref m20, .ref m21, .ref m22, .ref m23, .int 0, .ref m25, .ref m26, .ref m27, .ref m28, .ref m29, .int 0, .ref m31, .ref m32, .ref m33, .int 0, .int 0, .int 0, .ref m37, .ref m38, .ref m39, .ref m40, .long 0])), (m19, .inl (k 0, 40, .inl f19)), (m20, .inl (k 0, 120, .inl f20)), (m21, .inl (k 0, 20, .inl f21)), (m22, .inl (k 0, 600, .inl f22)), (m16, .inl (k 0, 5, .inl o_2)), (m17, .inl (k 0, 30, .inl o_5))]) (w1 := [(m18, .inl (k 0, 250, .inl o_8))]) hP hD [1] [0, 2, 3, 4, 5, 6, 7] rfl rfl (by decide) (by decide) hk1 hFc hP1 hD1
  clear hK1 hP1 hD1 hPc hDc hFc
  clear hk1 hz1 ht hvm
  have hP : va_P D vwCl [(mo, .inr (12, [.int 0, .ref m1, .ref m2, .ref m3, .ref m4, .ref m5, .int 0, .int 0, .int 0, .int 0, .int 0, .long 0, .int 0, .int 0, .int 0, .int (-1), .ref m16, .ref m17, .ref m18, .ref m19, .ref m20, .ref m21, .ref m22, .ref m23, .int 0, .ref m25, .ref m26, .ref m27, .ref m28, .ref m29, .int 0, .ref m31, .ref m32, .ref m33, .int 0, .int 0, .int 0, .ref m37, .ref m38, .ref m39, .ref m40, .long 0])), (m19, .inl (k 0, 40, .inl f19)), (m20, .inl (k 0, 120, .inl f20)), (m21, .inl (k 0, 20, .inl f21)), (m22, .inl (k 0, 600, .inl f22)), (m16, .inl (k 0, 5, .inl o_2)), (m17, .inl (k 0, 30, .inl o_5)), (m18, .inl (k 0, 250, .inl o_8))] H1 := hP
  have hD : va_D A [(mo, .inr (12, [.int 0, .ref m1, .ref m2, .ref m3, .ref m4, .ref m5, .int 0, .int 0, .int 0, .int 0, .int 0, .long 0, .int 0, .int 0, .int 0, .int (-1), .ref m16, .ref m17, .ref m18, .ref m19, .ref m20, .ref m21, .ref m22, .ref m23, .int 0, .ref m25, .ref m26, .ref m27, .ref m28, .ref m29, .int 0, .ref m31, .ref m32, .ref m33, .int 0, .int 0, .int 0, .ref m37, .ref m38, .ref m39, .ref m40, .long 0])), (m19, .inl (k 0, 40, .inl f19)), (m20, .inl (k 0, 120, .inl f20)), (m21, .inl (k 0, 20, .inl f21)), (m22, .inl (k 0, 600, .inl f22)), (m16, .inl (k 0, 5, .inl o_2)), (m17, .inl (k 0, 30, .inl o_5)), (m18, .inl (k 0, 250, .inl o_8))] := hD
  generalize H1 = H at hP hS ⊢
  have hw_9 : (∀ j : Nat, f18 j = (0 : Int32)) → ∀ j : Nat, o_8 j = (0 : Int32) := hw
  clear hw
  refine lv_aload_n hx hb dX12_copyTown_32 rfl (lv_at hl 0 rfl) ?_
  refine va_get (D := D) (ci := 12) (v := .ref m19) (C := RX12) (T := TX12) (N := 42) hx hb hts iT_X12 hown hK hP 0 rfl rfl 19 (by decide) (hts _ tw_6_72) (fun _ h9 => h9) rfl dX12_copyTown_33 ?_
  refine lv_bipush (v := 8) hx hb dX12_copyTown_36 (by decide) ?_
  refine lv_iload_n hx hb dX12_copyTown_38 rfl (lv_at hl 1 rfl) ?_
  refine lv_iload_n hx hb dX12_copyTown_39 rfl (lv_at hl 2 rfl) ?_
  have hPc := hP.sub (ws' := [(m19, .inl (k 0, 40, .inl f19))]) [1] rfl
  have hDc := hD.sub (ws' := [(m19, .inl (k 0, 40, .inl f19))]) [1] (by decide) rfl
  have hFc := va_free (wc := [(m19, .inl (k 0, 40, .inl f19))]) hD hS hA [1] rfl
  refine va_callv (va_runS (As := [.ref m19, .int 8, .int 0, .int 2]) (rest := []) ⟨hx, hb, hml, hown, hts⟩ (c_X12_copyRow_40_0_2 l D k m19 f19 H.size) (va_cwS 4 hts (gS tw_7_91 tw_7_92 tw_1_13 tw_7_93) rfl rfl rfl hdS_X12_copyRow ⟨Nat.le_of_ble_eq_true rfl, Nat.le_of_ble_eq_true rfl⟩) (cz_S hK hPc hDc hN [.ref m19, .int 8, .int 0, .int 2]) rfl rfl hl.1 rfl (lv_room (Nat.le_of_ble_eq_true rfl)) dX12_copyTown_40 ⟨Nat.le_of_ble_eq_true rfl, Nat.le_of_ble_eq_true rfl⟩) hS (fun q _ h => hFc q h) hFc (fun uZ tZ H1 locs ht hvm hw hB hz1 hk1 hS => ?_)
  obtain ⟨o_11, rfl⟩ : ∃ z, z = uZ := ⟨_, rfl⟩
  obtain ⟨hP1, hK1, hD1⟩ := hB
  rw [ht] at hP1
  obtain ⟨hP, hD⟩ := va_join (wr := [(mo, .inr (12, [.int 0, .ref m1, .ref m2, .ref m3, .ref m4, .ref m5, .int 0, .int 0, .int 0, .int 0, .int 0, .long 0, .int 0, .int 0, .int 0, .int (-1), .ref m16, .ref m17, .ref m18, .ref m19, .ref m20, .ref m21, .ref m22, .ref m23, .int 0, .ref m25, .ref m26, .ref m27, .ref m28, .ref m29, .int 0, .ref m31, .ref m32, .ref m33, .int 0, .int 0, .int 0, .ref m37, .ref m38, .ref m39, .ref m40, .long 0])), (m20, .inl (k 0, 120, .inl f20)), (m21, .inl (k 0, 20, .inl f21)), (m22, .inl (k 0, 600, .inl f22)), (m16, .inl (k 0, 5, .inl o_2)), (m17, .inl (k 0, 30, .inl o_5)), (m18, .inl (k 0, 250, .inl o_8))]) (w1 := [(m19, .inl (k 0, 40, .inl o_11))]) hP hD [1] [0, 2, 3, 4, 5, 6, 7] rfl rfl (by decide) (by decide) hk1 hFc hP1 hD1
  clear hK1 hP1 hD1 hPc hDc hFc
  clear hk1 hz1 ht hvm
  have hP : va_P D vwCl [(mo, .inr (12, [.int 0, .ref m1, .ref m2, .ref m3, .ref m4, .ref m5, .int 0, .int 0, .int 0, .int 0, .int 0, .long 0, .int 0, .int 0, .int 0, .int (-1), .ref m16, .ref m17, .ref m18, .ref m19, .ref m20, .ref m21, .ref m22, .ref m23, .int 0, .ref m25, .ref m26, .ref m27, .ref m28, .ref m29, .int 0, .ref m31, .ref m32, .ref m33, .int 0, .int 0, .int 0, .ref m37, .ref m38, .ref m39, .ref m40, .long 0])), (m20, .inl (k 0, 120, .inl f20)), (m21, .inl (k 0, 20, .inl f21)), (m22, .inl (k 0, 600, .inl f22)), (m16, .inl (k 0, 5, .inl o_2)), (m17, .inl (k 0, 30, .inl o_5)), (m18, .inl (k 0, 250, .inl o_8)), (m19, .inl (k 0, 40, .inl o_11))] H1 := hP
  have hD : va_D A [(mo, .inr (12, [.int 0, .ref m1, .ref m2, .ref m3, .ref m4, .ref m5, .int 0, .int 0, .int 0, .int 0, .int 0, .long 0, .int 0, .int 0, .int 0, .int (-1), .ref m16, .ref m17, .ref m18, .ref m19, .ref m20, .ref m21, .ref m22, .ref m23, .int 0, .ref m25, .ref m26, .ref m27, .ref m28, .ref m29, .int 0, .ref m31, .ref m32, .ref m33, .int 0, .int 0, .int 0, .ref m37, .ref m38, .ref m39, .ref m40, .long 0])), (m20, .inl (k 0, 120, .inl f20)), (m21, .inl (k 0, 20, .inl f21)), (m22, .inl (k 0, 600, .inl f22)), (m16, .inl (k 0, 5, .inl o_2)), (m17, .inl (k 0, 30, .inl o_5)), (m18, .inl (k 0, 250, .inl o_8)), (m19, .inl (k 0, 40, .inl o_11))] := hD
  generalize H1 = H at hP hS ⊢
  have hw_12 : (∀ j : Nat, f19 j = (0 : Int32)) → ∀ j : Nat, o_11 j = (0 : Int32) := hw
  clear hw
  refine lv_aload_n hx hb dX12_copyTown_43 rfl (lv_at hl 0 rfl) ?_
  refine va_get (D := D) (ci := 12) (v := .ref m20) (C := RX12) (T := TX12) (N := 42) hx hb hts iT_X12 hown hK hP 0 rfl rfl 20 (by decide) (hts _ tw_6_73) (fun _ h9 => h9) rfl dX12_copyTown_44 ?_
  refine lv_bipush (v := 24) hx hb dX12_copyTown_47 (by decide) ?_
  refine lv_iload_n hx hb dX12_copyTown_49 rfl (lv_at hl 1 rfl) ?_
  refine lv_iload_n hx hb dX12_copyTown_50 rfl (lv_at hl 2 rfl) ?_
  have hPc := hP.sub (ws' := [(m20, .inl (k 0, 120, .inl f20))]) [1] rfl
  have hDc := hD.sub (ws' := [(m20, .inl (k 0, 120, .inl f20))]) [1] (by decide) rfl
  have hFc := va_free (wc := [(m20, .inl (k 0, 120, .inl f20))]) hD hS hA [1] rfl
  refine va_callv (va_runS (As := [.ref m20, .int 24, .int 0, .int 2]) (rest := []) ⟨hx, hb, hml, hown, hts⟩ (c_X12_copyRow_120_0_2 l D k m20 f20 H.size) (va_cwS 4 hts (gS tw_7_91 tw_7_92 tw_1_13 tw_7_93) rfl rfl rfl hdS_X12_copyRow ⟨Nat.le_of_ble_eq_true rfl, Nat.le_of_ble_eq_true rfl⟩) (cz_S hK hPc hDc hN [.ref m20, .int 24, .int 0, .int 2]) rfl rfl hl.1 rfl (lv_room (Nat.le_of_ble_eq_true rfl)) dX12_copyTown_51 ⟨Nat.le_of_ble_eq_true rfl, Nat.le_of_ble_eq_true rfl⟩) hS (fun q _ h => hFc q h) hFc (fun uZ tZ H1 locs ht hvm hw hB hz1 hk1 hS => ?_)
  obtain ⟨o_14, rfl⟩ : ∃ z, z = uZ := ⟨_, rfl⟩
  obtain ⟨hP1, hK1, hD1⟩ := hB
  rw [ht] at hP1
  obtain ⟨hP, hD⟩ := va_join (wr := [(mo, .inr (12, [.int 0, .ref m1, .ref m2, .ref m3, .ref m4, .ref m5, .int 0, .int 0, .int 0, .int 0, .int 0, .long 0, .int 0, .int 0, .int 0, .int (-1), .ref m16, .ref m17, .ref m18, .ref m19, .ref m20, .ref m21, .ref m22, .ref m23, .int 0, .ref m25, .ref m26, .ref m27, .ref m28, .ref m29, .int 0, .ref m31, .ref m32, .ref m33, .int 0, .int 0, .int 0, .ref m37, .ref m38, .ref m39, .ref m40, .long 0])), (m21, .inl (k 0, 20, .inl f21)), (m22, .inl (k 0, 600, .inl f22)), (m16, .inl (k 0, 5, .inl o_2)), (m17, .inl (k 0, 30, .inl o_5)), (m18, .inl (k 0, 250, .inl o_8)), (m19, .inl (k 0, 40, .inl o_11))]) (w1 := [(m20, .inl (k 0, 120, .inl o_14))]) hP hD [1] [0, 2, 3, 4, 5, 6, 7] rfl rfl (by decide) (by decide) hk1 hFc hP1 hD1
  clear hK1 hP1 hD1 hPc hDc hFc
  clear hk1 hz1 ht hvm
  have hP : va_P D vwCl [(mo, .inr (12, [.int 0, .ref m1, .ref m2, .ref m3, .ref m4, .ref m5, .int 0, .int 0, .int 0, .int 0, .int 0, .long 0, .int 0, .int 0, .int 0, .int (-1), .ref m16, .ref m17, .ref m18, .ref m19, .ref m20, .ref m21, .ref m22, .ref m23, .int 0, .ref m25, .ref m26, .ref m27, .ref m28, .ref m29, .int 0, .ref m31, .ref m32, .ref m33, .int 0, .int 0, .int 0, .ref m37, .ref m38, .ref m39, .ref m40, .long 0])), (m21, .inl (k 0, 20, .inl f21)), (m22, .inl (k 0, 600, .inl f22)), (m16, .inl (k 0, 5, .inl o_2)), (m17, .inl (k 0, 30, .inl o_5)), (m18, .inl (k 0, 250, .inl o_8)), (m19, .inl (k 0, 40, .inl o_11)), (m20, .inl (k 0, 120, .inl o_14))] H1 := hP
  have hD : va_D A [(mo, .inr (12, [.int 0, .ref m1, .ref m2, .ref m3, .ref m4, .ref m5, .int 0, .int 0, .int 0, .int 0, .int 0, .long 0, .int 0, .int 0, .int 0, .int (-1), .ref m16, .ref m17, .ref m18, .ref m19, .ref m20, .ref m21, .ref m22, .ref m23, .int 0, .ref m25, .ref m26, .ref m27, .ref m28, .ref m29, .int 0, .ref m31, .ref m32, .ref m33, .int 0, .int 0, .int 0, .ref m37, .ref m38, .ref m39, .ref m40, .long 0])), (m21, .inl (k 0, 20, .inl f21)), (m22, .inl (k 0, 600, .inl f22)), (m16, .inl (k 0, 5, .inl o_2)), (m17, .inl (k 0, 30, .inl o_5)), (m18, .inl (k 0, 250, .inl o_8)), (m19, .inl (k 0, 40, .inl o_11)), (m20, .inl (k 0, 120, .inl o_14))] := hD
  generalize H1 = H at hP hS ⊢
  have hw_15 : (∀ j : Nat, f20 j = (0 : Int32)) → ∀ j : Nat, o_14 j = (0 : Int32) := hw
  clear hw
  refine lv_aload_n hx hb dX12_copyTown_54 rfl (lv_at hl 0 rfl) ?_
  refine va_get (D := D) (ci := 12) (v := .ref m21) (C := RX12) (T := TX12) (N := 42) hx hb hts iT_X12 hown hK hP 0 rfl rfl 21 (by decide) (hts _ tw_6_74) (fun _ h9 => h9) rfl dX12_copyTown_55 ?_
  refine lv_iconst (v := 4) hx hb dX12_copyTown_58 (by decide) ?_
  refine lv_iload_n hx hb dX12_copyTown_59 rfl (lv_at hl 1 rfl) ?_
  refine lv_iload_n hx hb dX12_copyTown_60 rfl (lv_at hl 2 rfl) ?_
  have hPc := hP.sub (ws' := [(m21, .inl (k 0, 20, .inl f21))]) [1] rfl
  have hDc := hD.sub (ws' := [(m21, .inl (k 0, 20, .inl f21))]) [1] (by decide) rfl
  have hFc := va_free (wc := [(m21, .inl (k 0, 20, .inl f21))]) hD hS hA [1] rfl
  refine va_callv (va_runS (As := [.ref m21, .int 4, .int 0, .int 2]) (rest := []) ⟨hx, hb, hml, hown, hts⟩ (c_X12_copyRow_20_0_2 l D k m21 f21 H.size) (va_cwS 4 hts (gS tw_7_91 tw_7_92 tw_1_13 tw_7_93) rfl rfl rfl hdS_X12_copyRow ⟨Nat.le_of_ble_eq_true rfl, Nat.le_of_ble_eq_true rfl⟩) (cz_S hK hPc hDc hN [.ref m21, .int 4, .int 0, .int 2]) rfl rfl hl.1 rfl (lv_room (Nat.le_of_ble_eq_true rfl)) dX12_copyTown_61 ⟨Nat.le_of_ble_eq_true rfl, Nat.le_of_ble_eq_true rfl⟩) hS (fun q _ h => hFc q h) hFc (fun uZ tZ H1 locs ht hvm hw hB hz1 hk1 hS => ?_)
  obtain ⟨o_17, rfl⟩ : ∃ z, z = uZ := ⟨_, rfl⟩
  obtain ⟨hP1, hK1, hD1⟩ := hB
  rw [ht] at hP1
  obtain ⟨hP, hD⟩ := va_join (wr := [(mo, .inr (12, [.int 0, .ref m1, .ref m2, .ref m3, .ref m4, .ref m5, .int 0, .int 0, .int 0, .int 0, .int 0, .long 0, .int 0, .int 0, .int 0, .int (-1), .ref m16, .ref m17, .ref m18, .ref m19, .ref m20, .ref m21, .ref m22, .ref m23, .int 0, .ref m25, .ref m26, .ref m27, .ref m28, .ref m29, .int 0, .ref m31, .ref m32, .ref m33, .int 0, .int 0, .int 0, .ref m37, .ref m38, .ref m39, .ref m40, .long 0])), (m22, .inl (k 0, 600, .inl f22)), (m16, .inl (k 0, 5, .inl o_2)), (m17, .inl (k 0, 30, .inl o_5)), (m18, .inl (k 0, 250, .inl o_8)), (m19, .inl (k 0, 40, .inl o_11)), (m20, .inl (k 0, 120, .inl o_14))]) (w1 := [(m21, .inl (k 0, 20, .inl o_17))]) hP hD [1] [0, 2, 3, 4, 5, 6, 7] rfl rfl (by decide) (by decide) hk1 hFc hP1 hD1
  clear hK1 hP1 hD1 hPc hDc hFc
  clear hk1 hz1 ht hvm
  have hP : va_P D vwCl [(mo, .inr (12, [.int 0, .ref m1, .ref m2, .ref m3, .ref m4, .ref m5, .int 0, .int 0, .int 0, .int 0, .int 0, .long 0, .int 0, .int 0, .int 0, .int (-1), .ref m16, .ref m17, .ref m18, .ref m19, .ref m20, .ref m21, .ref m22, .ref m23, .int 0, .ref m25, .ref m26, .ref m27, .ref m28, .ref m29, .int 0, .ref m31, .ref m32, .ref m33, .int 0, .int 0, .int 0, .ref m37, .ref m38, .ref m39, .ref m40, .long 0])), (m22, .inl (k 0, 600, .inl f22)), (m16, .inl (k 0, 5, .inl o_2)), (m17, .inl (k 0, 30, .inl o_5)), (m18, .inl (k 0, 250, .inl o_8)), (m19, .inl (k 0, 40, .inl o_11)), (m20, .inl (k 0, 120, .inl o_14)), (m21, .inl (k 0, 20, .inl o_17))] H1 := hP
  have hD : va_D A [(mo, .inr (12, [.int 0, .ref m1, .ref m2, .ref m3, .ref m4, .ref m5, .int 0, .int 0, .int 0, .int 0, .int 0, .long 0, .int 0, .int 0, .int 0, .int (-1), .ref m16, .ref m17, .ref m18, .ref m19, .ref m20, .ref m21, .ref m22, .ref m23, .int 0, .ref m25, .ref m26, .ref m27, .ref m28, .ref m29, .int 0, .ref m31, .ref m32, .ref m33, .int 0, .int 0, .int 0, .ref m37, .ref m38, .ref m39, .ref m40, .long 0])), (m22, .inl (k 0, 600, .inl f22)), (m16, .inl (k 0, 5, .inl o_2)), (m17, .inl (k 0, 30, .inl o_5)), (m18, .inl (k 0, 250, .inl o_8)), (m19, .inl (k 0, 40, .inl o_11)), (m20, .inl (k 0, 120, .inl o_14)), (m21, .inl (k 0, 20, .inl o_17))] := hD
  generalize H1 = H at hP hS ⊢
  have hw_18 : (∀ j : Nat, f21 j = (0 : Int32)) → ∀ j : Nat, o_17 j = (0 : Int32) := hw
  clear hw
  refine lv_aload_n hx hb dX12_copyTown_64 rfl (lv_at hl 0 rfl) ?_
  refine va_get (D := D) (ci := 12) (v := .ref m22) (C := RX12) (T := TX12) (N := 42) hx hb hts iT_X12 hown hK hP 0 rfl rfl 22 (by decide) (hts _ tw_6_75) (fun _ h9 => h9) rfl dX12_copyTown_65 ?_
  refine lv_bipush (v := 120) hx hb dX12_copyTown_68 (by decide) ?_
  refine lv_iload_n hx hb dX12_copyTown_70 rfl (lv_at hl 1 rfl) ?_
  refine lv_iload_n hx hb dX12_copyTown_71 rfl (lv_at hl 2 rfl) ?_
  have hPc := hP.sub (ws' := [(m22, .inl (k 0, 600, .inl f22))]) [1] rfl
  have hDc := hD.sub (ws' := [(m22, .inl (k 0, 600, .inl f22))]) [1] (by decide) rfl
  have hFc := va_free (wc := [(m22, .inl (k 0, 600, .inl f22))]) hD hS hA [1] rfl
  refine va_callv (va_runS (As := [.ref m22, .int 120, .int 0, .int 2]) (rest := []) ⟨hx, hb, hml, hown, hts⟩ (c_X12_copyRow_600_0_2 l D k m22 f22 H.size) (va_cwS 4 hts (gS tw_7_91 tw_7_92 tw_1_13 tw_7_93) rfl rfl rfl hdS_X12_copyRow ⟨Nat.le_of_ble_eq_true rfl, Nat.le_of_ble_eq_true rfl⟩) (cz_S hK hPc hDc hN [.ref m22, .int 120, .int 0, .int 2]) rfl rfl hl.1 rfl (lv_room (Nat.le_of_ble_eq_true rfl)) dX12_copyTown_72 ⟨Nat.le_of_ble_eq_true rfl, Nat.le_of_ble_eq_true rfl⟩) hS (fun q _ h => hFc q h) hFc (fun uZ tZ H1 locs ht hvm hw hB hz1 hk1 hS => ?_)
  obtain ⟨o_20, rfl⟩ : ∃ z, z = uZ := ⟨_, rfl⟩
  obtain ⟨hP1, hK1, hD1⟩ := hB
  rw [ht] at hP1
  obtain ⟨hP, hD⟩ := va_join (wr := [(mo, .inr (12, [.int 0, .ref m1, .ref m2, .ref m3, .ref m4, .ref m5, .int 0, .int 0, .int 0, .int 0, .int 0, .long 0, .int 0, .int 0, .int 0, .int (-1), .ref m16, .ref m17, .ref m18, .ref m19, .ref m20, .ref m21, .ref m22, .ref m23, .int 0, .ref m25, .ref m26, .ref m27, .ref m28, .ref m29, .int 0, .ref m31, .ref m32, .ref m33, .int 0, .int 0, .int 0, .ref m37, .ref m38, .ref m39, .ref m40, .long 0])), (m16, .inl (k 0, 5, .inl o_2)), (m17, .inl (k 0, 30, .inl o_5)), (m18, .inl (k 0, 250, .inl o_8)), (m19, .inl (k 0, 40, .inl o_11)), (m20, .inl (k 0, 120, .inl o_14)), (m21, .inl (k 0, 20, .inl o_17))]) (w1 := [(m22, .inl (k 0, 600, .inl o_20))]) hP hD [1] [0, 2, 3, 4, 5, 6, 7] rfl rfl (by decide) (by decide) hk1 hFc hP1 hD1
  clear hK1 hP1 hD1 hPc hDc hFc
  clear hk1 hz1 ht hvm
  have hP : va_P D vwCl [(mo, .inr (12, [.int 0, .ref m1, .ref m2, .ref m3, .ref m4, .ref m5, .int 0, .int 0, .int 0, .int 0, .int 0, .long 0, .int 0, .int 0, .int 0, .int (-1), .ref m16, .ref m17, .ref m18, .ref m19, .ref m20, .ref m21, .ref m22, .ref m23, .int 0, .ref m25, .ref m26, .ref m27, .ref m28, .ref m29, .int 0, .ref m31, .ref m32, .ref m33, .int 0, .int 0, .int 0, .ref m37, .ref m38, .ref m39, .ref m40, .long 0])), (m16, .inl (k 0, 5, .inl o_2)), (m17, .inl (k 0, 30, .inl o_5)), (m18, .inl (k 0, 250, .inl o_8)), (m19, .inl (k 0, 40, .inl o_11)), (m20, .inl (k 0, 120, .inl o_14)), (m21, .inl (k 0, 20, .inl o_17)), (m22, .inl (k 0, 600, .inl o_20))] H1 := hP
  have hD : va_D A [(mo, .inr (12, [.int 0, .ref m1, .ref m2, .ref m3, .ref m4, .ref m5, .int 0, .int 0, .int 0, .int 0, .int 0, .long 0, .int 0, .int 0, .int 0, .int (-1), .ref m16, .ref m17, .ref m18, .ref m19, .ref m20, .ref m21, .ref m22, .ref m23, .int 0, .ref m25, .ref m26, .ref m27, .ref m28, .ref m29, .int 0, .ref m31, .ref m32, .ref m33, .int 0, .int 0, .int 0, .ref m37, .ref m38, .ref m39, .ref m40, .long 0])), (m16, .inl (k 0, 5, .inl o_2)), (m17, .inl (k 0, 30, .inl o_5)), (m18, .inl (k 0, 250, .inl o_8)), (m19, .inl (k 0, 40, .inl o_11)), (m20, .inl (k 0, 120, .inl o_14)), (m21, .inl (k 0, 20, .inl o_17)), (m22, .inl (k 0, 600, .inl o_20))] := hD
  generalize H1 = H at hP hS ⊢
  have hw_21 : (∀ j : Nat, f22 j = (0 : Int32)) → ∀ j : Nat, o_20 j = (0 : Int32) := hw
  clear hw
  have hP9 := hP.sub (ws' := [(mo, .inr (12, [.int 0, .ref m1, .ref m2, .ref m3, .ref m4, .ref m5, .int 0, .int 0, .int 0, .int 0, .int 0, .long 0, .int 0, .int 0, .int 0, .int (-1), .ref m16, .ref m17, .ref m18, .ref m19, .ref m20, .ref m21, .ref m22, .ref m23, .int 0, .ref m25, .ref m26, .ref m27, .ref m28, .ref m29, .int 0, .ref m31, .ref m32, .ref m33, .int 0, .int 0, .int 0, .ref m37, .ref m38, .ref m39, .ref m40, .long 0])), (m16, .inl (k 0, 5, .inl o_2)), (m17, .inl (k 0, 30, .inl o_5)), (m18, .inl (k 0, 250, .inl o_8)), (m19, .inl (k 0, 40, .inl o_11)), (m20, .inl (k 0, 120, .inl o_14)), (m21, .inl (k 0, 20, .inl o_17)), (m22, .inl (k 0, 600, .inl o_20))]) [0, 1, 2, 3, 4, 5, 6, 7] rfl
  have hD9 := hD.sub (ws' := [(mo, .inr (12, [.int 0, .ref m1, .ref m2, .ref m3, .ref m4, .ref m5, .int 0, .int 0, .int 0, .int 0, .int 0, .long 0, .int 0, .int 0, .int 0, .int (-1), .ref m16, .ref m17, .ref m18, .ref m19, .ref m20, .ref m21, .ref m22, .ref m23, .int 0, .ref m25, .ref m26, .ref m27, .ref m28, .ref m29, .int 0, .ref m31, .ref m32, .ref m33, .int 0, .int 0, .int 0, .ref m37, .ref m38, .ref m39, .ref m40, .long 0])), (m16, .inl (k 0, 5, .inl o_2)), (m17, .inl (k 0, 30, .inl o_5)), (m18, .inl (k 0, 250, .inl o_8)), (m19, .inl (k 0, 40, .inl o_11)), (m20, .inl (k 0, 120, .inl o_14)), (m21, .inl (k 0, 20, .inl o_17)), (m22, .inl (k 0, 600, .inl o_20))]) [0, 1, 2, 3, 4, 5, 6, 7] (by decide) rfl
  exact W.vret hx hb hr (fun tZ ht hW => ⟨⟨(o_2, o_5, o_8, o_11, o_14, o_17, o_20), rfl, hw_3, by rw [ht]; exact hP9, va_K.moved hW.alike hK, hD9⟩, hS.F ht⟩) hS.2.2 dX12_copyTown_75
set_option maxHeartbeats 4000000 in
set_option maxRecDepth 100000 in
theorem c_X12_copyRow_5_0_3 (l : Launch) (D : va_G) (k : Nat → ClassId) (ra : Nat) (f : Nat → Int32) (sz : Nat) : Met l yX12_copyRow (ww yX12_copyRow cX12_copyRow 5 none) ({ frames := 0, cells := 0, slots := 0, locals := 0 }) (Pre0 D k [(ra, .inl (k 0, 5, .inl f))] sz [.ref ra, .int 1, .int 0, .int 3]) (va_Qv (fun (f2 : (Nat → Int32)) => (∀ j : Nat, f j = (0 : Int32)) → ∀ j : Nat, f2 j = (0 : Int32)) (fun (f2 : (Nat → Int32)) tZ => Bw D k (va_A [(ra, .inl (k 0, 5, .inl f))] sz) [(ra, .inl (k 0, 5, .inl f2))] tZ) (va_A [(ra, .inl (k 0, 5, .inl f))] sz)) 0 0 (va_A [(ra, .inl (k 0, 5, .inl f))] sz) := by
  refine Met.ofW (cc := cX12_copyRow) (maxL := 5) (ret := none) (by decide +kernel) rfl ?_
  intro p e s m args below meth c s₁ B hml hv
  obtain ⟨rfl, hsz, hP, hK, hD0, hN⟩ := hv
  have hx := B.exec
  have hb := B.bytes
  have hr := B.returns
  have hts : ∀ w ∈ TT, w.before _ s = true := fun w h => atoms_spec (ws := ww yX12_copyRow cX12_copyRow 5 none) B.pre w (List.mem_cons_of_mem _ h)
  have hown : s.vm.findClass RX12 = some m.cls := findClass_of_methodNamed B.named
  have hlocks := B.notSynchronized
  subst hsz
  have hD := hD0.self (sz := s.heap.size)
  generalize hAe : va_A [(ra, .inl (k 0, 5, .inl f))] s.heap.size = A at hD ⊢
  have hA : ∀ q : Nat, s.heap.size ≤ q → A q := fun q h => by rw [← hAe]; exact Or.inr h
  have hS : va_S A s.heap s.heap [] := va_S.rf
  have hl := lv_entry ([.ref ra, .int 1, .int 0, .int 3]) (n := 5) (Nat.le_of_ble_eq_true rfl)
  rw [lg_entry_eq]
  generalize (lg_sl ([.ref ra, .int 1, .int 0, .int 3]) ++ List.replicate (5 - (lg_sl ([.ref ra, .int 1, .int 0, .int 3])).length) Slot.unset).toArray = ls at hl ⊢
  have hl : lv_has ls 5 [(0, .ref ra), (1, .int 1), (2, .int 0), (3, .int 3)] := hl
  refine lv_iconst (v := 0) hx hb dX12_copyRow_0 (by decide) ?_
  refine lv_istore (lv' := [(4, .int 0), (0, .ref ra), (1, .int 1), (2, .int 0), (3, .int 3)]) hx hb dX12_copyRow_1 hl (by decide) rfl (fun ls hl => ?_)
  refine loop_r (Wg := fun H locs ls => W p l e _ s m _ below meth c H locs _ _ _ (F0 m 3 ls [])) (fun n9 H locs ls => ∃ (i : Int32) (gf : Nat → Int32), n9 = (1 - i.toInt).toNat ∧ (0 ≤ i.toInt) ∧ (i.toInt ≤ 1) ∧ ((∀ j : Nat, f j = (0 : Int32)) → ∀ j : Nat, gf j = (0 : Int32)) ∧ va_P D vwCl [(ra, .inl (k 0, 5, .inl gf))] H ∧ va_D A [(ra, .inl (k 0, 5, .inl gf))] ∧ va_S A s.heap H locs ∧ lv_has ls 5 [(4, .int i), (0, .ref ra), (1, .int 1), (2, .int 0), (3, .int 3)]) (fun n9 H locs ls hI ih_1 => ?_) _ _ _ _ ⟨0, f, rfl, (show 0 ≤ 0 from by omega), (show 0 ≤ 1 from by omega), (fun h => h), hP.sub (ws' := [(ra, .inl (k 0, 5, .inl f))]) [0] rfl, hD.sub (ws' := [(ra, .inl (k 0, 5, .inl f))]) [0] (by decide) rfl, hS, lv_sub hl [0, 1, 2, 3, 4] rfl⟩
  clear hP hD hS hl
  obtain ⟨i, gf, en_2, hi1, hi2, hz, hP, hD, hS, hl⟩ := hI
  refine lv_iload hx hb dX12_copyRow_3 (lv_at hl 0 rfl) ?_
  refine lv_iload_n hx hb dX12_copyRow_5 rfl (lv_at hl 2 rfl) ?_
  refine lv_icmp_ge (tgt := 31) hx hb dX12_copyRow_6 (by decide) (fun h_3 => ?_) (fun h_3 => ?_)
  · skip
    have zh_3 : 1 ≤ i.toInt := z_le h_3
    have hP9 := hP.sub (ws' := [(ra, .inl (k 0, 5, .inl gf))]) [0] rfl
    have hD9 := hD.sub (ws' := [(ra, .inl (k 0, 5, .inl gf))]) [0] (by decide) rfl
    exact W.vret hx hb hr (fun tZ ht hW => ⟨⟨gf, rfl, hz, by rw [ht]; exact hP9, va_K.moved hW.alike hK, hD9⟩, hS.F ht⟩) hS.2.2 dX12_copyRow_31
  · skip
    have zh_3 : i.toInt < 1 := z_nle h_3
    refine lv_aload_n hx hb dX12_copyRow_9 rfl (lv_at hl 1 rfl) ?_
    refine lv_iload_n hx hb dX12_copyRow_10 rfl (lv_at hl 2 rfl) ?_
    refine lv_iload_n hx hb dX12_copyRow_11 rfl (lv_at hl 4 rfl) ?_
    refine lv_imul hx hb dX12_copyRow_12 ?_
    refine lv_topi (fun x_4 ex_4 => ?_)
    obtain rfl : x_4 = 3 := ex_4.trans (by decide)
    refine lv_iload hx hb dX12_copyRow_13 (lv_at hl 0 rfl) ?_
    refine lv_iadd hx hb dX12_copyRow_15 ?_
    refine lv_topi (fun x_5 ex_5 => ?_)
    have zx_5 : x_5.toInt = 3 + i.toInt := by rw [ex_5]; exact z_add rfl rfl (by omega) (by omega)
    refine lv_aload_n hx hb dX12_copyRow_16 rfl (lv_at hl 1 rfl) ?_
    refine lv_iload_n hx hb dX12_copyRow_17 rfl (lv_at hl 2 rfl) ?_
    refine lv_iload_n hx hb dX12_copyRow_18 rfl (lv_at hl 3 rfl) ?_
    refine lv_imul hx hb dX12_copyRow_19 ?_
    refine lv_topi (fun x_6 ex_6 => ?_)
    obtain rfl : x_6 = 0 := ex_6.trans (by decide)
    refine lv_iload hx hb dX12_copyRow_20 (lv_at hl 0 rfl) ?_
    refine lv_iadd hx hb dX12_copyRow_22 ?_
    refine lv_topi (fun x_7 ex_7 => ?_)
    have zx_7 : x_7.toInt = 0 + i.toInt := by rw [ex_7]; exact z_add rfl rfl (by omega) (by omega)
    refine va_iald hx hb hK hP 0 0 rfl rfl (z_in (by omega) (by omega)) dX12_copyRow_23 ?_
    refine lv_topi (fun x_8 ex_8 => ?_)
    refine va_iast hx hb hK hP hD hS 0 0 rfl rfl (z_in (by omega) (by omega)) dX12_copyRow_24 (fun H locs hP hD hS => ?_)
    have hP : va_P D vwCl [(ra, .inl (k 0, 5, .inl (upd gf x_5.toNatClampNeg x_8)))] H := hP
    have hD : va_D A [(ra, .inl (k 0, 5, .inl (upd gf x_5.toNatClampNeg x_8)))] := hD
    obtain ⟨x_9, ex_9⟩ : ∃ y : Int32, y = i + 1 := ⟨_, rfl⟩
    have zx_9 : x_9.toInt = i.toInt + 1 := by rw [ex_9]; exact z_add rfl rfl (by omega) (by omega)
    refine lv_iinc (v := x_9) (lv' := [(4, .int x_9), (0, .ref ra), (1, .int 1), (2, .int 0), (3, .int 3)]) hx hb dX12_copyRow_25 hl (k := 0) rfl (by rw [ex_9]; rfl) (by decide) rfl (fun ls hl => ?_)
    refine lv_goto (tgt := 3) hx hb dX12_copyRow_28 (by decide) ?_
    exact ih_1 _ _ _ _ (by omega) ⟨x_9, (upd gf x_5.toNatClampNeg x_8), rfl, (show 0 ≤ x_9.toInt from by omega), (show x_9.toInt ≤ 1 from by omega), (fun h => updx (hz h) (ex_8.trans (hz h _))), hP.sub (ws' := [(ra, .inl (k 0, 5, .inl (upd gf x_5.toNatClampNeg x_8)))]) [0] rfl, hD.sub (ws' := [(ra, .inl (k 0, 5, .inl (upd gf x_5.toNatClampNeg x_8)))]) [0] (by decide) rfl, hS, lv_sub hl [0, 1, 2, 3, 4] rfl⟩
set_option maxHeartbeats 4000000 in
set_option maxRecDepth 100000 in
theorem c_X12_copyRow_30_0_3 (l : Launch) (D : va_G) (k : Nat → ClassId) (ra : Nat) (f : Nat → Int32) (sz : Nat) : Met l yX12_copyRow (ww yX12_copyRow cX12_copyRow 5 none) ({ frames := 0, cells := 0, slots := 0, locals := 0 }) (Pre0 D k [(ra, .inl (k 0, 30, .inl f))] sz [.ref ra, .int 6, .int 0, .int 3]) (va_Qv (fun (f2 : (Nat → Int32)) => (∀ j : Nat, f j = (0 : Int32)) → ∀ j : Nat, f2 j = (0 : Int32)) (fun (f2 : (Nat → Int32)) tZ => Bw D k (va_A [(ra, .inl (k 0, 30, .inl f))] sz) [(ra, .inl (k 0, 30, .inl f2))] tZ) (va_A [(ra, .inl (k 0, 30, .inl f))] sz)) 0 0 (va_A [(ra, .inl (k 0, 30, .inl f))] sz) := by
  refine Met.ofW (cc := cX12_copyRow) (maxL := 5) (ret := none) (by decide +kernel) rfl ?_
  intro p e s m args below meth c s₁ B hml hv
  obtain ⟨rfl, hsz, hP, hK, hD0, hN⟩ := hv
  have hx := B.exec
  have hb := B.bytes
  have hr := B.returns
  have hts : ∀ w ∈ TT, w.before _ s = true := fun w h => atoms_spec (ws := ww yX12_copyRow cX12_copyRow 5 none) B.pre w (List.mem_cons_of_mem _ h)
  have hown : s.vm.findClass RX12 = some m.cls := findClass_of_methodNamed B.named
  have hlocks := B.notSynchronized
  subst hsz
  have hD := hD0.self (sz := s.heap.size)
  generalize hAe : va_A [(ra, .inl (k 0, 30, .inl f))] s.heap.size = A at hD ⊢
  have hA : ∀ q : Nat, s.heap.size ≤ q → A q := fun q h => by rw [← hAe]; exact Or.inr h
  have hS : va_S A s.heap s.heap [] := va_S.rf
  have hl := lv_entry ([.ref ra, .int 6, .int 0, .int 3]) (n := 5) (Nat.le_of_ble_eq_true rfl)
  rw [lg_entry_eq]
  generalize (lg_sl ([.ref ra, .int 6, .int 0, .int 3]) ++ List.replicate (5 - (lg_sl ([.ref ra, .int 6, .int 0, .int 3])).length) Slot.unset).toArray = ls at hl ⊢
  have hl : lv_has ls 5 [(0, .ref ra), (1, .int 6), (2, .int 0), (3, .int 3)] := hl
  refine lv_iconst (v := 0) hx hb dX12_copyRow_0 (by decide) ?_
  refine lv_istore (lv' := [(4, .int 0), (0, .ref ra), (1, .int 6), (2, .int 0), (3, .int 3)]) hx hb dX12_copyRow_1 hl (by decide) rfl (fun ls hl => ?_)
  refine loop_r (Wg := fun H locs ls => W p l e _ s m _ below meth c H locs _ _ _ (F0 m 3 ls [])) (fun n9 H locs ls => ∃ (i : Int32) (gf : Nat → Int32), n9 = (6 - i.toInt).toNat ∧ (0 ≤ i.toInt) ∧ (i.toInt ≤ 6) ∧ ((∀ j : Nat, f j = (0 : Int32)) → ∀ j : Nat, gf j = (0 : Int32)) ∧ va_P D vwCl [(ra, .inl (k 0, 30, .inl gf))] H ∧ va_D A [(ra, .inl (k 0, 30, .inl gf))] ∧ va_S A s.heap H locs ∧ lv_has ls 5 [(4, .int i), (0, .ref ra), (1, .int 6), (2, .int 0), (3, .int 3)]) (fun n9 H locs ls hI ih_1 => ?_) _ _ _ _ ⟨0, f, rfl, (show 0 ≤ 0 from by omega), (show 0 ≤ 6 from by omega), (fun h => h), hP.sub (ws' := [(ra, .inl (k 0, 30, .inl f))]) [0] rfl, hD.sub (ws' := [(ra, .inl (k 0, 30, .inl f))]) [0] (by decide) rfl, hS, lv_sub hl [0, 1, 2, 3, 4] rfl⟩
  clear hP hD hS hl
  obtain ⟨i, gf, en_2, hi1, hi2, hz, hP, hD, hS, hl⟩ := hI
  refine lv_iload hx hb dX12_copyRow_3 (lv_at hl 0 rfl) ?_
  refine lv_iload_n hx hb dX12_copyRow_5 rfl (lv_at hl 2 rfl) ?_
  refine lv_icmp_ge (tgt := 31) hx hb dX12_copyRow_6 (by decide) (fun h_3 => ?_) (fun h_3 => ?_)
  · skip
    have zh_3 : 6 ≤ i.toInt := z_le h_3
    have hP9 := hP.sub (ws' := [(ra, .inl (k 0, 30, .inl gf))]) [0] rfl
    have hD9 := hD.sub (ws' := [(ra, .inl (k 0, 30, .inl gf))]) [0] (by decide) rfl
    exact W.vret hx hb hr (fun tZ ht hW => ⟨⟨gf, rfl, hz, by rw [ht]; exact hP9, va_K.moved hW.alike hK, hD9⟩, hS.F ht⟩) hS.2.2 dX12_copyRow_31
  · skip
    have zh_3 : i.toInt < 6 := z_nle h_3
    refine lv_aload_n hx hb dX12_copyRow_9 rfl (lv_at hl 1 rfl) ?_
    refine lv_iload_n hx hb dX12_copyRow_10 rfl (lv_at hl 2 rfl) ?_
    refine lv_iload_n hx hb dX12_copyRow_11 rfl (lv_at hl 4 rfl) ?_
    refine lv_imul hx hb dX12_copyRow_12 ?_
    refine lv_topi (fun x_4 ex_4 => ?_)
    obtain rfl : x_4 = 18 := ex_4.trans (by decide)
    refine lv_iload hx hb dX12_copyRow_13 (lv_at hl 0 rfl) ?_
    refine lv_iadd hx hb dX12_copyRow_15 ?_
    refine lv_topi (fun x_5 ex_5 => ?_)
    have zx_5 : x_5.toInt = 18 + i.toInt := by rw [ex_5]; exact z_add rfl rfl (by omega) (by omega)
    refine lv_aload_n hx hb dX12_copyRow_16 rfl (lv_at hl 1 rfl) ?_
    refine lv_iload_n hx hb dX12_copyRow_17 rfl (lv_at hl 2 rfl) ?_
    refine lv_iload_n hx hb dX12_copyRow_18 rfl (lv_at hl 3 rfl) ?_
    refine lv_imul hx hb dX12_copyRow_19 ?_
    refine lv_topi (fun x_6 ex_6 => ?_)
    obtain rfl : x_6 = 0 := ex_6.trans (by decide)
    refine lv_iload hx hb dX12_copyRow_20 (lv_at hl 0 rfl) ?_
    refine lv_iadd hx hb dX12_copyRow_22 ?_
    refine lv_topi (fun x_7 ex_7 => ?_)
    have zx_7 : x_7.toInt = 0 + i.toInt := by rw [ex_7]; exact z_add rfl rfl (by omega) (by omega)
    refine va_iald hx hb hK hP 0 0 rfl rfl (z_in (by omega) (by omega)) dX12_copyRow_23 ?_
    refine lv_topi (fun x_8 ex_8 => ?_)
    refine va_iast hx hb hK hP hD hS 0 0 rfl rfl (z_in (by omega) (by omega)) dX12_copyRow_24 (fun H locs hP hD hS => ?_)
    have hP : va_P D vwCl [(ra, .inl (k 0, 30, .inl (upd gf x_5.toNatClampNeg x_8)))] H := hP
    have hD : va_D A [(ra, .inl (k 0, 30, .inl (upd gf x_5.toNatClampNeg x_8)))] := hD
    obtain ⟨x_9, ex_9⟩ : ∃ y : Int32, y = i + 1 := ⟨_, rfl⟩
    have zx_9 : x_9.toInt = i.toInt + 1 := by rw [ex_9]; exact z_add rfl rfl (by omega) (by omega)
    refine lv_iinc (v := x_9) (lv' := [(4, .int x_9), (0, .ref ra), (1, .int 6), (2, .int 0), (3, .int 3)]) hx hb dX12_copyRow_25 hl (k := 0) rfl (by rw [ex_9]; rfl) (by decide) rfl (fun ls hl => ?_)
    refine lv_goto (tgt := 3) hx hb dX12_copyRow_28 (by decide) ?_
    exact ih_1 _ _ _ _ (by omega) ⟨x_9, (upd gf x_5.toNatClampNeg x_8), rfl, (show 0 ≤ x_9.toInt from by omega), (show x_9.toInt ≤ 6 from by omega), (fun h => updx (hz h) (ex_8.trans (hz h _))), hP.sub (ws' := [(ra, .inl (k 0, 30, .inl (upd gf x_5.toNatClampNeg x_8)))]) [0] rfl, hD.sub (ws' := [(ra, .inl (k 0, 30, .inl (upd gf x_5.toNatClampNeg x_8)))]) [0] (by decide) rfl, hS, lv_sub hl [0, 1, 2, 3, 4] rfl⟩
set_option maxHeartbeats 4000000 in
set_option maxRecDepth 100000 in
theorem c_X12_copyRow_250_0_3 (l : Launch) (D : va_G) (k : Nat → ClassId) (ra : Nat) (f : Nat → Int32) (sz : Nat) : Met l yX12_copyRow (ww yX12_copyRow cX12_copyRow 5 none) ({ frames := 0, cells := 0, slots := 0, locals := 0 }) (Pre0 D k [(ra, .inl (k 0, 250, .inl f))] sz [.ref ra, .int 50, .int 0, .int 3]) (va_Qv (fun (f2 : (Nat → Int32)) => (∀ j : Nat, f j = (0 : Int32)) → ∀ j : Nat, f2 j = (0 : Int32)) (fun (f2 : (Nat → Int32)) tZ => Bw D k (va_A [(ra, .inl (k 0, 250, .inl f))] sz) [(ra, .inl (k 0, 250, .inl f2))] tZ) (va_A [(ra, .inl (k 0, 250, .inl f))] sz)) 0 0 (va_A [(ra, .inl (k 0, 250, .inl f))] sz) := by
  refine Met.ofW (cc := cX12_copyRow) (maxL := 5) (ret := none) (by decide +kernel) rfl ?_
  intro p e s m args below meth c s₁ B hml hv
  obtain ⟨rfl, hsz, hP, hK, hD0, hN⟩ := hv
  have hx := B.exec
  have hb := B.bytes
  have hr := B.returns
  have hts : ∀ w ∈ TT, w.before _ s = true := fun w h => atoms_spec (ws := ww yX12_copyRow cX12_copyRow 5 none) B.pre w (List.mem_cons_of_mem _ h)
  have hown : s.vm.findClass RX12 = some m.cls := findClass_of_methodNamed B.named
  have hlocks := B.notSynchronized
  subst hsz
  have hD := hD0.self (sz := s.heap.size)
  generalize hAe : va_A [(ra, .inl (k 0, 250, .inl f))] s.heap.size = A at hD ⊢
  have hA : ∀ q : Nat, s.heap.size ≤ q → A q := fun q h => by rw [← hAe]; exact Or.inr h
  have hS : va_S A s.heap s.heap [] := va_S.rf
  have hl := lv_entry ([.ref ra, .int 50, .int 0, .int 3]) (n := 5) (Nat.le_of_ble_eq_true rfl)
  rw [lg_entry_eq]
  generalize (lg_sl ([.ref ra, .int 50, .int 0, .int 3]) ++ List.replicate (5 - (lg_sl ([.ref ra, .int 50, .int 0, .int 3])).length) Slot.unset).toArray = ls at hl ⊢
  have hl : lv_has ls 5 [(0, .ref ra), (1, .int 50), (2, .int 0), (3, .int 3)] := hl
  refine lv_iconst (v := 0) hx hb dX12_copyRow_0 (by decide) ?_
  refine lv_istore (lv' := [(4, .int 0), (0, .ref ra), (1, .int 50), (2, .int 0), (3, .int 3)]) hx hb dX12_copyRow_1 hl (by decide) rfl (fun ls hl => ?_)
  refine loop_r (Wg := fun H locs ls => W p l e _ s m _ below meth c H locs _ _ _ (F0 m 3 ls [])) (fun n9 H locs ls => ∃ (i : Int32) (gf : Nat → Int32), n9 = (50 - i.toInt).toNat ∧ (0 ≤ i.toInt) ∧ (i.toInt ≤ 50) ∧ ((∀ j : Nat, f j = (0 : Int32)) → ∀ j : Nat, gf j = (0 : Int32)) ∧ va_P D vwCl [(ra, .inl (k 0, 250, .inl gf))] H ∧ va_D A [(ra, .inl (k 0, 250, .inl gf))] ∧ va_S A s.heap H locs ∧ lv_has ls 5 [(4, .int i), (0, .ref ra), (1, .int 50), (2, .int 0), (3, .int 3)]) (fun n9 H locs ls hI ih_1 => ?_) _ _ _ _ ⟨0, f, rfl, (show 0 ≤ 0 from by omega), (show 0 ≤ 50 from by omega), (fun h => h), hP.sub (ws' := [(ra, .inl (k 0, 250, .inl f))]) [0] rfl, hD.sub (ws' := [(ra, .inl (k 0, 250, .inl f))]) [0] (by decide) rfl, hS, lv_sub hl [0, 1, 2, 3, 4] rfl⟩
  clear hP hD hS hl
  obtain ⟨i, gf, en_2, hi1, hi2, hz, hP, hD, hS, hl⟩ := hI
  refine lv_iload hx hb dX12_copyRow_3 (lv_at hl 0 rfl) ?_
  refine lv_iload_n hx hb dX12_copyRow_5 rfl (lv_at hl 2 rfl) ?_
  refine lv_icmp_ge (tgt := 31) hx hb dX12_copyRow_6 (by decide) (fun h_3 => ?_) (fun h_3 => ?_)
  · skip
    have zh_3 : 50 ≤ i.toInt := z_le h_3
    have hP9 := hP.sub (ws' := [(ra, .inl (k 0, 250, .inl gf))]) [0] rfl
    have hD9 := hD.sub (ws' := [(ra, .inl (k 0, 250, .inl gf))]) [0] (by decide) rfl
    exact W.vret hx hb hr (fun tZ ht hW => ⟨⟨gf, rfl, hz, by rw [ht]; exact hP9, va_K.moved hW.alike hK, hD9⟩, hS.F ht⟩) hS.2.2 dX12_copyRow_31
  · skip
    have zh_3 : i.toInt < 50 := z_nle h_3
    refine lv_aload_n hx hb dX12_copyRow_9 rfl (lv_at hl 1 rfl) ?_
    refine lv_iload_n hx hb dX12_copyRow_10 rfl (lv_at hl 2 rfl) ?_
    refine lv_iload_n hx hb dX12_copyRow_11 rfl (lv_at hl 4 rfl) ?_
    refine lv_imul hx hb dX12_copyRow_12 ?_
    refine lv_topi (fun x_4 ex_4 => ?_)
    obtain rfl : x_4 = 150 := ex_4.trans (by decide)
    refine lv_iload hx hb dX12_copyRow_13 (lv_at hl 0 rfl) ?_
    refine lv_iadd hx hb dX12_copyRow_15 ?_
    refine lv_topi (fun x_5 ex_5 => ?_)
    have zx_5 : x_5.toInt = 150 + i.toInt := by rw [ex_5]; exact z_add rfl rfl (by omega) (by omega)
    refine lv_aload_n hx hb dX12_copyRow_16 rfl (lv_at hl 1 rfl) ?_
    refine lv_iload_n hx hb dX12_copyRow_17 rfl (lv_at hl 2 rfl) ?_
    refine lv_iload_n hx hb dX12_copyRow_18 rfl (lv_at hl 3 rfl) ?_
    refine lv_imul hx hb dX12_copyRow_19 ?_
    refine lv_topi (fun x_6 ex_6 => ?_)
    obtain rfl : x_6 = 0 := ex_6.trans (by decide)
    refine lv_iload hx hb dX12_copyRow_20 (lv_at hl 0 rfl) ?_
    refine lv_iadd hx hb dX12_copyRow_22 ?_
    refine lv_topi (fun x_7 ex_7 => ?_)
    have zx_7 : x_7.toInt = 0 + i.toInt := by rw [ex_7]; exact z_add rfl rfl (by omega) (by omega)
    refine va_iald hx hb hK hP 0 0 rfl rfl (z_in (by omega) (by omega)) dX12_copyRow_23 ?_
    refine lv_topi (fun x_8 ex_8 => ?_)
    refine va_iast hx hb hK hP hD hS 0 0 rfl rfl (z_in (by omega) (by omega)) dX12_copyRow_24 (fun H locs hP hD hS => ?_)
    have hP : va_P D vwCl [(ra, .inl (k 0, 250, .inl (upd gf x_5.toNatClampNeg x_8)))] H := hP
    have hD : va_D A [(ra, .inl (k 0, 250, .inl (upd gf x_5.toNatClampNeg x_8)))] := hD
    obtain ⟨x_9, ex_9⟩ : ∃ y : Int32, y = i + 1 := ⟨_, rfl⟩
    have zx_9 : x_9.toInt = i.toInt + 1 := by rw [ex_9]; exact z_add rfl rfl (by omega) (by omega)
    refine lv_iinc (v := x_9) (lv' := [(4, .int x_9), (0, .ref ra), (1, .int 50), (2, .int 0), (3, .int 3)]) hx hb dX12_copyRow_25 hl (k := 0) rfl (by rw [ex_9]; rfl) (by decide) rfl (fun ls hl => ?_)
    refine lv_goto (tgt := 3) hx hb dX12_copyRow_28 (by decide) ?_
    exact ih_1 _ _ _ _ (by omega) ⟨x_9, (upd gf x_5.toNatClampNeg x_8), rfl, (show 0 ≤ x_9.toInt from by omega), (show x_9.toInt ≤ 50 from by omega), (fun h => updx (hz h) (ex_8.trans (hz h _))), hP.sub (ws' := [(ra, .inl (k 0, 250, .inl (upd gf x_5.toNatClampNeg x_8)))]) [0] rfl, hD.sub (ws' := [(ra, .inl (k 0, 250, .inl (upd gf x_5.toNatClampNeg x_8)))]) [0] (by decide) rfl, hS, lv_sub hl [0, 1, 2, 3, 4] rfl⟩
set_option maxHeartbeats 4000000 in
set_option maxRecDepth 100000 in
theorem c_X12_copyRow_40_0_3 (l : Launch) (D : va_G) (k : Nat → ClassId) (ra : Nat) (f : Nat → Int32) (sz : Nat) : Met l yX12_copyRow (ww yX12_copyRow cX12_copyRow 5 none) ({ frames := 0, cells := 0, slots := 0, locals := 0 }) (Pre0 D k [(ra, .inl (k 0, 40, .inl f))] sz [.ref ra, .int 8, .int 0, .int 3]) (va_Qv (fun (f2 : (Nat → Int32)) => (∀ j : Nat, f j = (0 : Int32)) → ∀ j : Nat, f2 j = (0 : Int32)) (fun (f2 : (Nat → Int32)) tZ => Bw D k (va_A [(ra, .inl (k 0, 40, .inl f))] sz) [(ra, .inl (k 0, 40, .inl f2))] tZ) (va_A [(ra, .inl (k 0, 40, .inl f))] sz)) 0 0 (va_A [(ra, .inl (k 0, 40, .inl f))] sz) := by
  refine Met.ofW (cc := cX12_copyRow) (maxL := 5) (ret := none) (by decide +kernel) rfl ?_
  intro p e s m args below meth c s₁ B hml hv
  obtain ⟨rfl, hsz, hP, hK, hD0, hN⟩ := hv
  have hx := B.exec
  have hb := B.bytes
  have hr := B.returns
  have hts : ∀ w ∈ TT, w.before _ s = true := fun w h => atoms_spec (ws := ww yX12_copyRow cX12_copyRow 5 none) B.pre w (List.mem_cons_of_mem _ h)
  have hown : s.vm.findClass RX12 = some m.cls := findClass_of_methodNamed B.named
  have hlocks := B.notSynchronized
  subst hsz
  have hD := hD0.self (sz := s.heap.size)
  generalize hAe : va_A [(ra, .inl (k 0, 40, .inl f))] s.heap.size = A at hD ⊢
  have hA : ∀ q : Nat, s.heap.size ≤ q → A q := fun q h => by rw [← hAe]; exact Or.inr h
  have hS : va_S A s.heap s.heap [] := va_S.rf
  have hl := lv_entry ([.ref ra, .int 8, .int 0, .int 3]) (n := 5) (Nat.le_of_ble_eq_true rfl)
  rw [lg_entry_eq]
  generalize (lg_sl ([.ref ra, .int 8, .int 0, .int 3]) ++ List.replicate (5 - (lg_sl ([.ref ra, .int 8, .int 0, .int 3])).length) Slot.unset).toArray = ls at hl ⊢
  have hl : lv_has ls 5 [(0, .ref ra), (1, .int 8), (2, .int 0), (3, .int 3)] := hl
  refine lv_iconst (v := 0) hx hb dX12_copyRow_0 (by decide) ?_
  refine lv_istore (lv' := [(4, .int 0), (0, .ref ra), (1, .int 8), (2, .int 0), (3, .int 3)]) hx hb dX12_copyRow_1 hl (by decide) rfl (fun ls hl => ?_)
  refine loop_r (Wg := fun H locs ls => W p l e _ s m _ below meth c H locs _ _ _ (F0 m 3 ls [])) (fun n9 H locs ls => ∃ (i : Int32) (gf : Nat → Int32), n9 = (8 - i.toInt).toNat ∧ (0 ≤ i.toInt) ∧ (i.toInt ≤ 8) ∧ ((∀ j : Nat, f j = (0 : Int32)) → ∀ j : Nat, gf j = (0 : Int32)) ∧ va_P D vwCl [(ra, .inl (k 0, 40, .inl gf))] H ∧ va_D A [(ra, .inl (k 0, 40, .inl gf))] ∧ va_S A s.heap H locs ∧ lv_has ls 5 [(4, .int i), (0, .ref ra), (1, .int 8), (2, .int 0), (3, .int 3)]) (fun n9 H locs ls hI ih_1 => ?_) _ _ _ _ ⟨0, f, rfl, (show 0 ≤ 0 from by omega), (show 0 ≤ 8 from by omega), (fun h => h), hP.sub (ws' := [(ra, .inl (k 0, 40, .inl f))]) [0] rfl, hD.sub (ws' := [(ra, .inl (k 0, 40, .inl f))]) [0] (by decide) rfl, hS, lv_sub hl [0, 1, 2, 3, 4] rfl⟩
  clear hP hD hS hl
  obtain ⟨i, gf, en_2, hi1, hi2, hz, hP, hD, hS, hl⟩ := hI
  refine lv_iload hx hb dX12_copyRow_3 (lv_at hl 0 rfl) ?_
  refine lv_iload_n hx hb dX12_copyRow_5 rfl (lv_at hl 2 rfl) ?_
  refine lv_icmp_ge (tgt := 31) hx hb dX12_copyRow_6 (by decide) (fun h_3 => ?_) (fun h_3 => ?_)
  · skip
    have zh_3 : 8 ≤ i.toInt := z_le h_3
    have hP9 := hP.sub (ws' := [(ra, .inl (k 0, 40, .inl gf))]) [0] rfl
    have hD9 := hD.sub (ws' := [(ra, .inl (k 0, 40, .inl gf))]) [0] (by decide) rfl
    exact W.vret hx hb hr (fun tZ ht hW => ⟨⟨gf, rfl, hz, by rw [ht]; exact hP9, va_K.moved hW.alike hK, hD9⟩, hS.F ht⟩) hS.2.2 dX12_copyRow_31
  · skip
    have zh_3 : i.toInt < 8 := z_nle h_3
    refine lv_aload_n hx hb dX12_copyRow_9 rfl (lv_at hl 1 rfl) ?_
    refine lv_iload_n hx hb dX12_copyRow_10 rfl (lv_at hl 2 rfl) ?_
    refine lv_iload_n hx hb dX12_copyRow_11 rfl (lv_at hl 4 rfl) ?_
    refine lv_imul hx hb dX12_copyRow_12 ?_
    refine lv_topi (fun x_4 ex_4 => ?_)
    obtain rfl : x_4 = 24 := ex_4.trans (by decide)
    refine lv_iload hx hb dX12_copyRow_13 (lv_at hl 0 rfl) ?_
    refine lv_iadd hx hb dX12_copyRow_15 ?_
    refine lv_topi (fun x_5 ex_5 => ?_)
    have zx_5 : x_5.toInt = 24 + i.toInt := by rw [ex_5]; exact z_add rfl rfl (by omega) (by omega)
    refine lv_aload_n hx hb dX12_copyRow_16 rfl (lv_at hl 1 rfl) ?_
    refine lv_iload_n hx hb dX12_copyRow_17 rfl (lv_at hl 2 rfl) ?_
    refine lv_iload_n hx hb dX12_copyRow_18 rfl (lv_at hl 3 rfl) ?_
    refine lv_imul hx hb dX12_copyRow_19 ?_
    refine lv_topi (fun x_6 ex_6 => ?_)
    obtain rfl : x_6 = 0 := ex_6.trans (by decide)
    refine lv_iload hx hb dX12_copyRow_20 (lv_at hl 0 rfl) ?_
    refine lv_iadd hx hb dX12_copyRow_22 ?_
    refine lv_topi (fun x_7 ex_7 => ?_)
    have zx_7 : x_7.toInt = 0 + i.toInt := by rw [ex_7]; exact z_add rfl rfl (by omega) (by omega)
    refine va_iald hx hb hK hP 0 0 rfl rfl (z_in (by omega) (by omega)) dX12_copyRow_23 ?_
    refine lv_topi (fun x_8 ex_8 => ?_)
    refine va_iast hx hb hK hP hD hS 0 0 rfl rfl (z_in (by omega) (by omega)) dX12_copyRow_24 (fun H locs hP hD hS => ?_)
    have hP : va_P D vwCl [(ra, .inl (k 0, 40, .inl (upd gf x_5.toNatClampNeg x_8)))] H := hP
    have hD : va_D A [(ra, .inl (k 0, 40, .inl (upd gf x_5.toNatClampNeg x_8)))] := hD
    obtain ⟨x_9, ex_9⟩ : ∃ y : Int32, y = i + 1 := ⟨_, rfl⟩
    have zx_9 : x_9.toInt = i.toInt + 1 := by rw [ex_9]; exact z_add rfl rfl (by omega) (by omega)
    refine lv_iinc (v := x_9) (lv' := [(4, .int x_9), (0, .ref ra), (1, .int 8), (2, .int 0), (3, .int 3)]) hx hb dX12_copyRow_25 hl (k := 0) rfl (by rw [ex_9]; rfl) (by decide) rfl (fun ls hl => ?_)
    refine lv_goto (tgt := 3) hx hb dX12_copyRow_28 (by decide) ?_
    exact ih_1 _ _ _ _ (by omega) ⟨x_9, (upd gf x_5.toNatClampNeg x_8), rfl, (show 0 ≤ x_9.toInt from by omega), (show x_9.toInt ≤ 8 from by omega), (fun h => updx (hz h) (ex_8.trans (hz h _))), hP.sub (ws' := [(ra, .inl (k 0, 40, .inl (upd gf x_5.toNatClampNeg x_8)))]) [0] rfl, hD.sub (ws' := [(ra, .inl (k 0, 40, .inl (upd gf x_5.toNatClampNeg x_8)))]) [0] (by decide) rfl, hS, lv_sub hl [0, 1, 2, 3, 4] rfl⟩
set_option maxHeartbeats 4000000 in
set_option maxRecDepth 100000 in
theorem c_X12_copyRow_120_0_3 (l : Launch) (D : va_G) (k : Nat → ClassId) (ra : Nat) (f : Nat → Int32) (sz : Nat) : Met l yX12_copyRow (ww yX12_copyRow cX12_copyRow 5 none) ({ frames := 0, cells := 0, slots := 0, locals := 0 }) (Pre0 D k [(ra, .inl (k 0, 120, .inl f))] sz [.ref ra, .int 24, .int 0, .int 3]) (va_Qv (fun (f2 : (Nat → Int32)) => (∀ j : Nat, f j = (0 : Int32)) → ∀ j : Nat, f2 j = (0 : Int32)) (fun (f2 : (Nat → Int32)) tZ => Bw D k (va_A [(ra, .inl (k 0, 120, .inl f))] sz) [(ra, .inl (k 0, 120, .inl f2))] tZ) (va_A [(ra, .inl (k 0, 120, .inl f))] sz)) 0 0 (va_A [(ra, .inl (k 0, 120, .inl f))] sz) := by
  refine Met.ofW (cc := cX12_copyRow) (maxL := 5) (ret := none) (by decide +kernel) rfl ?_
  intro p e s m args below meth c s₁ B hml hv
  obtain ⟨rfl, hsz, hP, hK, hD0, hN⟩ := hv
  have hx := B.exec
  have hb := B.bytes
  have hr := B.returns
  have hts : ∀ w ∈ TT, w.before _ s = true := fun w h => atoms_spec (ws := ww yX12_copyRow cX12_copyRow 5 none) B.pre w (List.mem_cons_of_mem _ h)
  have hown : s.vm.findClass RX12 = some m.cls := findClass_of_methodNamed B.named
  have hlocks := B.notSynchronized
  subst hsz
  have hD := hD0.self (sz := s.heap.size)
  generalize hAe : va_A [(ra, .inl (k 0, 120, .inl f))] s.heap.size = A at hD ⊢
  have hA : ∀ q : Nat, s.heap.size ≤ q → A q := fun q h => by rw [← hAe]; exact Or.inr h
  have hS : va_S A s.heap s.heap [] := va_S.rf
  have hl := lv_entry ([.ref ra, .int 24, .int 0, .int 3]) (n := 5) (Nat.le_of_ble_eq_true rfl)
  rw [lg_entry_eq]
  generalize (lg_sl ([.ref ra, .int 24, .int 0, .int 3]) ++ List.replicate (5 - (lg_sl ([.ref ra, .int 24, .int 0, .int 3])).length) Slot.unset).toArray = ls at hl ⊢
  have hl : lv_has ls 5 [(0, .ref ra), (1, .int 24), (2, .int 0), (3, .int 3)] := hl
  refine lv_iconst (v := 0) hx hb dX12_copyRow_0 (by decide) ?_
  refine lv_istore (lv' := [(4, .int 0), (0, .ref ra), (1, .int 24), (2, .int 0), (3, .int 3)]) hx hb dX12_copyRow_1 hl (by decide) rfl (fun ls hl => ?_)
  refine loop_r (Wg := fun H locs ls => W p l e _ s m _ below meth c H locs _ _ _ (F0 m 3 ls [])) (fun n9 H locs ls => ∃ (i : Int32) (gf : Nat → Int32), n9 = (24 - i.toInt).toNat ∧ (0 ≤ i.toInt) ∧ (i.toInt ≤ 24) ∧ ((∀ j : Nat, f j = (0 : Int32)) → ∀ j : Nat, gf j = (0 : Int32)) ∧ va_P D vwCl [(ra, .inl (k 0, 120, .inl gf))] H ∧ va_D A [(ra, .inl (k 0, 120, .inl gf))] ∧ va_S A s.heap H locs ∧ lv_has ls 5 [(4, .int i), (0, .ref ra), (1, .int 24), (2, .int 0), (3, .int 3)]) (fun n9 H locs ls hI ih_1 => ?_) _ _ _ _ ⟨0, f, rfl, (show 0 ≤ 0 from by omega), (show 0 ≤ 24 from by omega), (fun h => h), hP.sub (ws' := [(ra, .inl (k 0, 120, .inl f))]) [0] rfl, hD.sub (ws' := [(ra, .inl (k 0, 120, .inl f))]) [0] (by decide) rfl, hS, lv_sub hl [0, 1, 2, 3, 4] rfl⟩
  clear hP hD hS hl
  obtain ⟨i, gf, en_2, hi1, hi2, hz, hP, hD, hS, hl⟩ := hI
  refine lv_iload hx hb dX12_copyRow_3 (lv_at hl 0 rfl) ?_
  refine lv_iload_n hx hb dX12_copyRow_5 rfl (lv_at hl 2 rfl) ?_
  refine lv_icmp_ge (tgt := 31) hx hb dX12_copyRow_6 (by decide) (fun h_3 => ?_) (fun h_3 => ?_)
  · skip
    have zh_3 : 24 ≤ i.toInt := z_le h_3
    have hP9 := hP.sub (ws' := [(ra, .inl (k 0, 120, .inl gf))]) [0] rfl
    have hD9 := hD.sub (ws' := [(ra, .inl (k 0, 120, .inl gf))]) [0] (by decide) rfl
    exact W.vret hx hb hr (fun tZ ht hW => ⟨⟨gf, rfl, hz, by rw [ht]; exact hP9, va_K.moved hW.alike hK, hD9⟩, hS.F ht⟩) hS.2.2 dX12_copyRow_31
  · skip
    have zh_3 : i.toInt < 24 := z_nle h_3
    refine lv_aload_n hx hb dX12_copyRow_9 rfl (lv_at hl 1 rfl) ?_
    refine lv_iload_n hx hb dX12_copyRow_10 rfl (lv_at hl 2 rfl) ?_
    refine lv_iload_n hx hb dX12_copyRow_11 rfl (lv_at hl 4 rfl) ?_
    refine lv_imul hx hb dX12_copyRow_12 ?_
    refine lv_topi (fun x_4 ex_4 => ?_)
    obtain rfl : x_4 = 72 := ex_4.trans (by decide)
    refine lv_iload hx hb dX12_copyRow_13 (lv_at hl 0 rfl) ?_
    refine lv_iadd hx hb dX12_copyRow_15 ?_
    refine lv_topi (fun x_5 ex_5 => ?_)
    have zx_5 : x_5.toInt = 72 + i.toInt := by rw [ex_5]; exact z_add rfl rfl (by omega) (by omega)
    refine lv_aload_n hx hb dX12_copyRow_16 rfl (lv_at hl 1 rfl) ?_
    refine lv_iload_n hx hb dX12_copyRow_17 rfl (lv_at hl 2 rfl) ?_
    refine lv_iload_n hx hb dX12_copyRow_18 rfl (lv_at hl 3 rfl) ?_
    refine lv_imul hx hb dX12_copyRow_19 ?_
    refine lv_topi (fun x_6 ex_6 => ?_)
    obtain rfl : x_6 = 0 := ex_6.trans (by decide)
    refine lv_iload hx hb dX12_copyRow_20 (lv_at hl 0 rfl) ?_
    refine lv_iadd hx hb dX12_copyRow_22 ?_
    refine lv_topi (fun x_7 ex_7 => ?_)
    have zx_7 : x_7.toInt = 0 + i.toInt := by rw [ex_7]; exact z_add rfl rfl (by omega) (by omega)
    refine va_iald hx hb hK hP 0 0 rfl rfl (z_in (by omega) (by omega)) dX12_copyRow_23 ?_
    refine lv_topi (fun x_8 ex_8 => ?_)
    refine va_iast hx hb hK hP hD hS 0 0 rfl rfl (z_in (by omega) (by omega)) dX12_copyRow_24 (fun H locs hP hD hS => ?_)
    have hP : va_P D vwCl [(ra, .inl (k 0, 120, .inl (upd gf x_5.toNatClampNeg x_8)))] H := hP
    have hD : va_D A [(ra, .inl (k 0, 120, .inl (upd gf x_5.toNatClampNeg x_8)))] := hD
    obtain ⟨x_9, ex_9⟩ : ∃ y : Int32, y = i + 1 := ⟨_, rfl⟩
    have zx_9 : x_9.toInt = i.toInt + 1 := by rw [ex_9]; exact z_add rfl rfl (by omega) (by omega)
    refine lv_iinc (v := x_9) (lv' := [(4, .int x_9), (0, .ref ra), (1, .int 24), (2, .int 0), (3, .int 3)]) hx hb dX12_copyRow_25 hl (k := 0) rfl (by rw [ex_9]; rfl) (by decide) rfl (fun ls hl => ?_)
    refine lv_goto (tgt := 3) hx hb dX12_copyRow_28 (by decide) ?_
    exact ih_1 _ _ _ _ (by omega) ⟨x_9, (upd gf x_5.toNatClampNeg x_8), rfl, (show 0 ≤ x_9.toInt from by omega), (show x_9.toInt ≤ 24 from by omega), (fun h => updx (hz h) (ex_8.trans (hz h _))), hP.sub (ws' := [(ra, .inl (k 0, 120, .inl (upd gf x_5.toNatClampNeg x_8)))]) [0] rfl, hD.sub (ws' := [(ra, .inl (k 0, 120, .inl (upd gf x_5.toNatClampNeg x_8)))]) [0] (by decide) rfl, hS, lv_sub hl [0, 1, 2, 3, 4] rfl⟩
set_option maxHeartbeats 4000000 in
set_option maxRecDepth 100000 in
theorem c_X12_copyRow_20_0_3 (l : Launch) (D : va_G) (k : Nat → ClassId) (ra : Nat) (f : Nat → Int32) (sz : Nat) : Met l yX12_copyRow (ww yX12_copyRow cX12_copyRow 5 none) ({ frames := 0, cells := 0, slots := 0, locals := 0 }) (Pre0 D k [(ra, .inl (k 0, 20, .inl f))] sz [.ref ra, .int 4, .int 0, .int 3]) (va_Qv (fun (f2 : (Nat → Int32)) => (∀ j : Nat, f j = (0 : Int32)) → ∀ j : Nat, f2 j = (0 : Int32)) (fun (f2 : (Nat → Int32)) tZ => Bw D k (va_A [(ra, .inl (k 0, 20, .inl f))] sz) [(ra, .inl (k 0, 20, .inl f2))] tZ) (va_A [(ra, .inl (k 0, 20, .inl f))] sz)) 0 0 (va_A [(ra, .inl (k 0, 20, .inl f))] sz) := by
  refine Met.ofW (cc := cX12_copyRow) (maxL := 5) (ret := none) (by decide +kernel) rfl ?_
  intro p e s m args below meth c s₁ B hml hv
  obtain ⟨rfl, hsz, hP, hK, hD0, hN⟩ := hv
  have hx := B.exec
  have hb := B.bytes
  have hr := B.returns
  have hts : ∀ w ∈ TT, w.before _ s = true := fun w h => atoms_spec (ws := ww yX12_copyRow cX12_copyRow 5 none) B.pre w (List.mem_cons_of_mem _ h)
  have hown : s.vm.findClass RX12 = some m.cls := findClass_of_methodNamed B.named
  have hlocks := B.notSynchronized
  subst hsz
  have hD := hD0.self (sz := s.heap.size)
  generalize hAe : va_A [(ra, .inl (k 0, 20, .inl f))] s.heap.size = A at hD ⊢
  have hA : ∀ q : Nat, s.heap.size ≤ q → A q := fun q h => by rw [← hAe]; exact Or.inr h
  have hS : va_S A s.heap s.heap [] := va_S.rf
  have hl := lv_entry ([.ref ra, .int 4, .int 0, .int 3]) (n := 5) (Nat.le_of_ble_eq_true rfl)
  rw [lg_entry_eq]
  generalize (lg_sl ([.ref ra, .int 4, .int 0, .int 3]) ++ List.replicate (5 - (lg_sl ([.ref ra, .int 4, .int 0, .int 3])).length) Slot.unset).toArray = ls at hl ⊢
  have hl : lv_has ls 5 [(0, .ref ra), (1, .int 4), (2, .int 0), (3, .int 3)] := hl
  refine lv_iconst (v := 0) hx hb dX12_copyRow_0 (by decide) ?_
  refine lv_istore (lv' := [(4, .int 0), (0, .ref ra), (1, .int 4), (2, .int 0), (3, .int 3)]) hx hb dX12_copyRow_1 hl (by decide) rfl (fun ls hl => ?_)
  refine loop_r (Wg := fun H locs ls => W p l e _ s m _ below meth c H locs _ _ _ (F0 m 3 ls [])) (fun n9 H locs ls => ∃ (i : Int32) (gf : Nat → Int32), n9 = (4 - i.toInt).toNat ∧ (0 ≤ i.toInt) ∧ (i.toInt ≤ 4) ∧ ((∀ j : Nat, f j = (0 : Int32)) → ∀ j : Nat, gf j = (0 : Int32)) ∧ va_P D vwCl [(ra, .inl (k 0, 20, .inl gf))] H ∧ va_D A [(ra, .inl (k 0, 20, .inl gf))] ∧ va_S A s.heap H locs ∧ lv_has ls 5 [(4, .int i), (0, .ref ra), (1, .int 4), (2, .int 0), (3, .int 3)]) (fun n9 H locs ls hI ih_1 => ?_) _ _ _ _ ⟨0, f, rfl, (show 0 ≤ 0 from by omega), (show 0 ≤ 4 from by omega), (fun h => h), hP.sub (ws' := [(ra, .inl (k 0, 20, .inl f))]) [0] rfl, hD.sub (ws' := [(ra, .inl (k 0, 20, .inl f))]) [0] (by decide) rfl, hS, lv_sub hl [0, 1, 2, 3, 4] rfl⟩
  clear hP hD hS hl
  obtain ⟨i, gf, en_2, hi1, hi2, hz, hP, hD, hS, hl⟩ := hI
  refine lv_iload hx hb dX12_copyRow_3 (lv_at hl 0 rfl) ?_
  refine lv_iload_n hx hb dX12_copyRow_5 rfl (lv_at hl 2 rfl) ?_
  refine lv_icmp_ge (tgt := 31) hx hb dX12_copyRow_6 (by decide) (fun h_3 => ?_) (fun h_3 => ?_)
  · skip
    have zh_3 : 4 ≤ i.toInt := z_le h_3
    have hP9 := hP.sub (ws' := [(ra, .inl (k 0, 20, .inl gf))]) [0] rfl
    have hD9 := hD.sub (ws' := [(ra, .inl (k 0, 20, .inl gf))]) [0] (by decide) rfl
    exact W.vret hx hb hr (fun tZ ht hW => ⟨⟨gf, rfl, hz, by rw [ht]; exact hP9, va_K.moved hW.alike hK, hD9⟩, hS.F ht⟩) hS.2.2 dX12_copyRow_31
  · skip
    have zh_3 : i.toInt < 4 := z_nle h_3
    refine lv_aload_n hx hb dX12_copyRow_9 rfl (lv_at hl 1 rfl) ?_
    refine lv_iload_n hx hb dX12_copyRow_10 rfl (lv_at hl 2 rfl) ?_
    refine lv_iload_n hx hb dX12_copyRow_11 rfl (lv_at hl 4 rfl) ?_
    refine lv_imul hx hb dX12_copyRow_12 ?_
    refine lv_topi (fun x_4 ex_4 => ?_)
    obtain rfl : x_4 = 12 := ex_4.trans (by decide)
    refine lv_iload hx hb dX12_copyRow_13 (lv_at hl 0 rfl) ?_
    refine lv_iadd hx hb dX12_copyRow_15 ?_
    refine lv_topi (fun x_5 ex_5 => ?_)
    have zx_5 : x_5.toInt = 12 + i.toInt := by rw [ex_5]; exact z_add rfl rfl (by omega) (by omega)
    refine lv_aload_n hx hb dX12_copyRow_16 rfl (lv_at hl 1 rfl) ?_
    refine lv_iload_n hx hb dX12_copyRow_17 rfl (lv_at hl 2 rfl) ?_
    refine lv_iload_n hx hb dX12_copyRow_18 rfl (lv_at hl 3 rfl) ?_
    refine lv_imul hx hb dX12_copyRow_19 ?_
    refine lv_topi (fun x_6 ex_6 => ?_)
    obtain rfl : x_6 = 0 := ex_6.trans (by decide)
    refine lv_iload hx hb dX12_copyRow_20 (lv_at hl 0 rfl) ?_
    refine lv_iadd hx hb dX12_copyRow_22 ?_
    refine lv_topi (fun x_7 ex_7 => ?_)
    have zx_7 : x_7.toInt = 0 + i.toInt := by rw [ex_7]; exact z_add rfl rfl (by omega) (by omega)
    refine va_iald hx hb hK hP 0 0 rfl rfl (z_in (by omega) (by omega)) dX12_copyRow_23 ?_
    refine lv_topi (fun x_8 ex_8 => ?_)
    refine va_iast hx hb hK hP hD hS 0 0 rfl rfl (z_in (by omega) (by omega)) dX12_copyRow_24 (fun H locs hP hD hS => ?_)
    have hP : va_P D vwCl [(ra, .inl (k 0, 20, .inl (upd gf x_5.toNatClampNeg x_8)))] H := hP
    have hD : va_D A [(ra, .inl (k 0, 20, .inl (upd gf x_5.toNatClampNeg x_8)))] := hD
    obtain ⟨x_9, ex_9⟩ : ∃ y : Int32, y = i + 1 := ⟨_, rfl⟩
    have zx_9 : x_9.toInt = i.toInt + 1 := by rw [ex_9]; exact z_add rfl rfl (by omega) (by omega)
    refine lv_iinc (v := x_9) (lv' := [(4, .int x_9), (0, .ref ra), (1, .int 4), (2, .int 0), (3, .int 3)]) hx hb dX12_copyRow_25 hl (k := 0) rfl (by rw [ex_9]; rfl) (by decide) rfl (fun ls hl => ?_)
    refine lv_goto (tgt := 3) hx hb dX12_copyRow_28 (by decide) ?_
    exact ih_1 _ _ _ _ (by omega) ⟨x_9, (upd gf x_5.toNatClampNeg x_8), rfl, (show 0 ≤ x_9.toInt from by omega), (show x_9.toInt ≤ 4 from by omega), (fun h => updx (hz h) (ex_8.trans (hz h _))), hP.sub (ws' := [(ra, .inl (k 0, 20, .inl (upd gf x_5.toNatClampNeg x_8)))]) [0] rfl, hD.sub (ws' := [(ra, .inl (k 0, 20, .inl (upd gf x_5.toNatClampNeg x_8)))]) [0] (by decide) rfl, hS, lv_sub hl [0, 1, 2, 3, 4] rfl⟩
set_option maxHeartbeats 4000000 in
set_option maxRecDepth 100000 in
theorem c_X12_copyRow_600_0_3 (l : Launch) (D : va_G) (k : Nat → ClassId) (ra : Nat) (f : Nat → Int32) (sz : Nat) : Met l yX12_copyRow (ww yX12_copyRow cX12_copyRow 5 none) ({ frames := 0, cells := 0, slots := 0, locals := 0 }) (Pre0 D k [(ra, .inl (k 0, 600, .inl f))] sz [.ref ra, .int 120, .int 0, .int 3]) (va_Qv (fun (f2 : (Nat → Int32)) => (∀ j : Nat, f j = (0 : Int32)) → ∀ j : Nat, f2 j = (0 : Int32)) (fun (f2 : (Nat → Int32)) tZ => Bw D k (va_A [(ra, .inl (k 0, 600, .inl f))] sz) [(ra, .inl (k 0, 600, .inl f2))] tZ) (va_A [(ra, .inl (k 0, 600, .inl f))] sz)) 0 0 (va_A [(ra, .inl (k 0, 600, .inl f))] sz) := by
  refine Met.ofW (cc := cX12_copyRow) (maxL := 5) (ret := none) (by decide +kernel) rfl ?_
  intro p e s m args below meth c s₁ B hml hv
  obtain ⟨rfl, hsz, hP, hK, hD0, hN⟩ := hv
  have hx := B.exec
  have hb := B.bytes
  have hr := B.returns
  have hts : ∀ w ∈ TT, w.before _ s = true := fun w h => atoms_spec (ws := ww yX12_copyRow cX12_copyRow 5 none) B.pre w (List.mem_cons_of_mem _ h)
  have hown : s.vm.findClass RX12 = some m.cls := findClass_of_methodNamed B.named
  have hlocks := B.notSynchronized
  subst hsz
  have hD := hD0.self (sz := s.heap.size)
  generalize hAe : va_A [(ra, .inl (k 0, 600, .inl f))] s.heap.size = A at hD ⊢
  have hA : ∀ q : Nat, s.heap.size ≤ q → A q := fun q h => by rw [← hAe]; exact Or.inr h
  have hS : va_S A s.heap s.heap [] := va_S.rf
  have hl := lv_entry ([.ref ra, .int 120, .int 0, .int 3]) (n := 5) (Nat.le_of_ble_eq_true rfl)
  rw [lg_entry_eq]
  generalize (lg_sl ([.ref ra, .int 120, .int 0, .int 3]) ++ List.replicate (5 - (lg_sl ([.ref ra, .int 120, .int 0, .int 3])).length) Slot.unset).toArray = ls at hl ⊢
  have hl : lv_has ls 5 [(0, .ref ra), (1, .int 120), (2, .int 0), (3, .int 3)] := hl
  refine lv_iconst (v := 0) hx hb dX12_copyRow_0 (by decide) ?_
  refine lv_istore (lv' := [(4, .int 0), (0, .ref ra), (1, .int 120), (2, .int 0), (3, .int 3)]) hx hb dX12_copyRow_1 hl (by decide) rfl (fun ls hl => ?_)
  refine loop_r (Wg := fun H locs ls => W p l e _ s m _ below meth c H locs _ _ _ (F0 m 3 ls [])) (fun n9 H locs ls => ∃ (i : Int32) (gf : Nat → Int32), n9 = (120 - i.toInt).toNat ∧ (0 ≤ i.toInt) ∧ (i.toInt ≤ 120) ∧ ((∀ j : Nat, f j = (0 : Int32)) → ∀ j : Nat, gf j = (0 : Int32)) ∧ va_P D vwCl [(ra, .inl (k 0, 600, .inl gf))] H ∧ va_D A [(ra, .inl (k 0, 600, .inl gf))] ∧ va_S A s.heap H locs ∧ lv_has ls 5 [(4, .int i), (0, .ref ra), (1, .int 120), (2, .int 0), (3, .int 3)]) (fun n9 H locs ls hI ih_1 => ?_) _ _ _ _ ⟨0, f, rfl, (show 0 ≤ 0 from by omega), (show 0 ≤ 120 from by omega), (fun h => h), hP.sub (ws' := [(ra, .inl (k 0, 600, .inl f))]) [0] rfl, hD.sub (ws' := [(ra, .inl (k 0, 600, .inl f))]) [0] (by decide) rfl, hS, lv_sub hl [0, 1, 2, 3, 4] rfl⟩
  clear hP hD hS hl
  obtain ⟨i, gf, en_2, hi1, hi2, hz, hP, hD, hS, hl⟩ := hI
  refine lv_iload hx hb dX12_copyRow_3 (lv_at hl 0 rfl) ?_
  refine lv_iload_n hx hb dX12_copyRow_5 rfl (lv_at hl 2 rfl) ?_
  refine lv_icmp_ge (tgt := 31) hx hb dX12_copyRow_6 (by decide) (fun h_3 => ?_) (fun h_3 => ?_)
  · skip
    have zh_3 : 120 ≤ i.toInt := z_le h_3
    have hP9 := hP.sub (ws' := [(ra, .inl (k 0, 600, .inl gf))]) [0] rfl
    have hD9 := hD.sub (ws' := [(ra, .inl (k 0, 600, .inl gf))]) [0] (by decide) rfl
    exact W.vret hx hb hr (fun tZ ht hW => ⟨⟨gf, rfl, hz, by rw [ht]; exact hP9, va_K.moved hW.alike hK, hD9⟩, hS.F ht⟩) hS.2.2 dX12_copyRow_31
  · skip
    have zh_3 : i.toInt < 120 := z_nle h_3
    refine lv_aload_n hx hb dX12_copyRow_9 rfl (lv_at hl 1 rfl) ?_
    refine lv_iload_n hx hb dX12_copyRow_10 rfl (lv_at hl 2 rfl) ?_
    refine lv_iload_n hx hb dX12_copyRow_11 rfl (lv_at hl 4 rfl) ?_
    refine lv_imul hx hb dX12_copyRow_12 ?_
    refine lv_topi (fun x_4 ex_4 => ?_)
    obtain rfl : x_4 = 360 := ex_4.trans (by decide)
    refine lv_iload hx hb dX12_copyRow_13 (lv_at hl 0 rfl) ?_
    refine lv_iadd hx hb dX12_copyRow_15 ?_
    refine lv_topi (fun x_5 ex_5 => ?_)
    have zx_5 : x_5.toInt = 360 + i.toInt := by rw [ex_5]; exact z_add rfl rfl (by omega) (by omega)
    refine lv_aload_n hx hb dX12_copyRow_16 rfl (lv_at hl 1 rfl) ?_
    refine lv_iload_n hx hb dX12_copyRow_17 rfl (lv_at hl 2 rfl) ?_
    refine lv_iload_n hx hb dX12_copyRow_18 rfl (lv_at hl 3 rfl) ?_
    refine lv_imul hx hb dX12_copyRow_19 ?_
    refine lv_topi (fun x_6 ex_6 => ?_)
    obtain rfl : x_6 = 0 := ex_6.trans (by decide)
    refine lv_iload hx hb dX12_copyRow_20 (lv_at hl 0 rfl) ?_
    refine lv_iadd hx hb dX12_copyRow_22 ?_
    refine lv_topi (fun x_7 ex_7 => ?_)
    have zx_7 : x_7.toInt = 0 + i.toInt := by rw [ex_7]; exact z_add rfl rfl (by omega) (by omega)
    refine va_iald hx hb hK hP 0 0 rfl rfl (z_in (by omega) (by omega)) dX12_copyRow_23 ?_
    refine lv_topi (fun x_8 ex_8 => ?_)
    refine va_iast hx hb hK hP hD hS 0 0 rfl rfl (z_in (by omega) (by omega)) dX12_copyRow_24 (fun H locs hP hD hS => ?_)
    have hP : va_P D vwCl [(ra, .inl (k 0, 600, .inl (upd gf x_5.toNatClampNeg x_8)))] H := hP
    have hD : va_D A [(ra, .inl (k 0, 600, .inl (upd gf x_5.toNatClampNeg x_8)))] := hD
    obtain ⟨x_9, ex_9⟩ : ∃ y : Int32, y = i + 1 := ⟨_, rfl⟩
    have zx_9 : x_9.toInt = i.toInt + 1 := by rw [ex_9]; exact z_add rfl rfl (by omega) (by omega)
    refine lv_iinc (v := x_9) (lv' := [(4, .int x_9), (0, .ref ra), (1, .int 120), (2, .int 0), (3, .int 3)]) hx hb dX12_copyRow_25 hl (k := 0) rfl (by rw [ex_9]; rfl) (by decide) rfl (fun ls hl => ?_)
    refine lv_goto (tgt := 3) hx hb dX12_copyRow_28 (by decide) ?_
    exact ih_1 _ _ _ _ (by omega) ⟨x_9, (upd gf x_5.toNatClampNeg x_8), rfl, (show 0 ≤ x_9.toInt from by omega), (show x_9.toInt ≤ 120 from by omega), (fun h => updx (hz h) (ex_8.trans (hz h _))), hP.sub (ws' := [(ra, .inl (k 0, 600, .inl (upd gf x_5.toNatClampNeg x_8)))]) [0] rfl, hD.sub (ws' := [(ra, .inl (k 0, 600, .inl (upd gf x_5.toNatClampNeg x_8)))]) [0] (by decide) rfl, hS, lv_sub hl [0, 1, 2, 3, 4] rfl⟩
set_option maxHeartbeats 4000000 in
set_option maxRecDepth 100000 in
theorem c_X12_copyTown_0_3 (l : Launch) (D : va_G) (k : Nat → ClassId) (mo : Nat) (m1 : Nat) (m2 : Nat) (m3 : Nat) (m4 : Nat) (m5 : Nat) (m16 : Nat) (m17 : Nat) (m18 : Nat) (m19 : Nat) (m20 : Nat) (m21 : Nat) (m22 : Nat) (m23 : Nat) (m25 : Nat) (m26 : Nat) (m27 : Nat) (m28 : Nat) (m29 : Nat) (m31 : Nat) (m32 : Nat) (m33 : Nat) (m37 : Nat) (m38 : Nat) (m39 : Nat) (m40 : Nat) (f16 : Nat → Int32) (f17 : Nat → Int32) (f18 : Nat → Int32) (f19 : Nat → Int32) (f20 : Nat → Int32) (f21 : Nat → Int32) (f22 : Nat → Int32) (sz : Nat) : Met l yX12_copyTown (ww yX12_copyTown cX12_copyTown 3 none) ({ frames := 1, cells := 0, slots := 0, locals := 24 }) (Pre0 D k [(mo, .inr (12, [.int 0, .ref m1, .ref m2, .ref m3, .ref m4, .ref m5, .int 0, .int 0, .int 0, .int 0, .int 0, .long 0, .int 0, .int 0, .int 0, .int (-1), .ref m16, .ref m17, .ref m18, .ref m19, .ref m20, .ref m21, .ref m22, .ref m23, .int 0, .ref m25, .ref m26, .ref m27, .ref m28, .ref m29, .int 0, .ref m31, .ref m32, .ref m33, .int 0, .int 0, .int 0, .ref m37, .ref m38, .ref m39, .ref m40, .long 0])), (m16, .inl (k 0, 5, .inl f16)), (m17, .inl (k 0, 30, .inl f17)), (m18, .inl (k 0, 250, .inl f18)), (m19, .inl (k 0, 40, .inl f19)), (m20, .inl (k 0, 120, .inl f20)), (m21, .inl (k 0, 20, .inl f21)), (m22, .inl (k 0, 600, .inl f22))] sz [.ref mo, .int 0, .int 3]) (va_Qv (fun (u : (Nat → Int32) × (Nat → Int32) × (Nat → Int32) × (Nat → Int32) × (Nat → Int32) × (Nat → Int32) × (Nat → Int32)) => match u with | (o16, o17, o18, o19, o20, o21, o22) => (∀ j : Nat, f16 j = (0 : Int32)) → ∀ j : Nat, o16 j = (0 : Int32)) (fun (u : (Nat → Int32) × (Nat → Int32) × (Nat → Int32) × (Nat → Int32) × (Nat → Int32) × (Nat → Int32) × (Nat → Int32)) tZ => match u with | (o16, o17, o18, o19, o20, o21, o22) => Bw D k (va_A [(mo, .inr (12, [.int 0, .ref m1, .ref m2, .ref m3, .ref m4, .ref m5, .int 0, .int 0, .int 0, .int 0, .int 0, .long 0, .int 0, .int 0, .int 0, .int (-1), .ref m16, .ref m17, .ref m18, .ref m19, .ref m20, .ref m21, .ref m22, .ref m23, .int 0, .ref m25, .ref m26, .ref m27, .ref m28, .ref m29, .int 0, .ref m31, .ref m32, .ref m33, .int 0, .int 0, .int 0, .ref m37, .ref m38, .ref m39, .ref m40, .long 0])), (m16, .inl (k 0, 5, .inl f16)), (m17, .inl (k 0, 30, .inl f17)), (m18, .inl (k 0, 250, .inl f18)), (m19, .inl (k 0, 40, .inl f19)), (m20, .inl (k 0, 120, .inl f20)), (m21, .inl (k 0, 20, .inl f21)), (m22, .inl (k 0, 600, .inl f22))] sz) [(mo, .inr (12, [.int 0, .ref m1, .ref m2, .ref m3, .ref m4, .ref m5, .int 0, .int 0, .int 0, .int 0, .int 0, .long 0, .int 0, .int 0, .int 0, .int (-1), .ref m16, .ref m17, .ref m18, .ref m19, .ref m20, .ref m21, .ref m22, .ref m23, .int 0, .ref m25, .ref m26, .ref m27, .ref m28, .ref m29, .int 0, .ref m31, .ref m32, .ref m33, .int 0, .int 0, .int 0, .ref m37, .ref m38, .ref m39, .ref m40, .long 0])), (m16, .inl (k 0, 5, .inl o16)), (m17, .inl (k 0, 30, .inl o17)), (m18, .inl (k 0, 250, .inl o18)), (m19, .inl (k 0, 40, .inl o19)), (m20, .inl (k 0, 120, .inl o20)), (m21, .inl (k 0, 20, .inl o21)), (m22, .inl (k 0, 600, .inl o22))] tZ) (va_A [(mo, .inr (12, [.int 0, .ref m1, .ref m2, .ref m3, .ref m4, .ref m5, .int 0, .int 0, .int 0, .int 0, .int 0, .long 0, .int 0, .int 0, .int 0, .int (-1), .ref m16, .ref m17, .ref m18, .ref m19, .ref m20, .ref m21, .ref m22, .ref m23, .int 0, .ref m25, .ref m26, .ref m27, .ref m28, .ref m29, .int 0, .ref m31, .ref m32, .ref m33, .int 0, .int 0, .int 0, .ref m37, .ref m38, .ref m39, .ref m40, .long 0])), (m16, .inl (k 0, 5, .inl f16)), (m17, .inl (k 0, 30, .inl f17)), (m18, .inl (k 0, 250, .inl f18)), (m19, .inl (k 0, 40, .inl f19)), (m20, .inl (k 0, 120, .inl f20)), (m21, .inl (k 0, 20, .inl f21)), (m22, .inl (k 0, 600, .inl f22))] sz)) 0 0 (va_A [(mo, .inr (12, [.int 0, .ref m1, .ref m2, .ref m3, .ref m4, .ref m5, .int 0, .int 0, .int 0, .int 0, .int 0, .long 0, .int 0, .int 0, .int 0, .int (-1), .ref m16, .ref m17, .ref m18, .ref m19, .ref m20, .ref m21, .ref m22, .ref m23, .int 0, .ref m25, .ref m26, .ref m27, .ref m28, .ref m29, .int 0, .ref m31, .ref m32, .ref m33, .int 0, .int 0, .int 0, .ref m37, .ref m38, .ref m39, .ref m40, .long 0])), (m16, .inl (k 0, 5, .inl f16)), (m17, .inl (k 0, 30, .inl f17)), (m18, .inl (k 0, 250, .inl f18)), (m19, .inl (k 0, 40, .inl f19)), (m20, .inl (k 0, 120, .inl f20)), (m21, .inl (k 0, 20, .inl f21)), (m22, .inl (k 0, 600, .inl f22))] sz) := by
  refine Met.ofW (cc := cX12_copyTown) (maxL := 3) (ret := none) (by decide +kernel) rfl ?_
  intro p e s m args below meth c s₁ B hml hv
  obtain ⟨rfl, hsz, hP, hK, hD0, hN⟩ := hv
  have hx := B.exec
  have hb := B.bytes
  have hr := B.returns
  have hts : ∀ w ∈ TT, w.before _ s = true := fun w h => atoms_spec (ws := ww yX12_copyTown cX12_copyTown 3 none) B.pre w (List.mem_cons_of_mem _ h)
  have hown : s.vm.findClass RX12 = some m.cls := findClass_of_methodNamed B.named
  have hlocks := B.notSynchronized
  subst hsz
  have hD := hD0.self (sz := s.heap.size)
  generalize hAe : va_A [(mo, .inr (12, [.int 0, .ref m1, .ref m2, .ref m3, .ref m4, .ref m5, .int 0, .int 0, .int 0, .int 0, .int 0, .long 0, .int 0, .int 0, .int 0, .int (-1), .ref m16, .ref m17, .ref m18, .ref m19, .ref m20, .ref m21, .ref m22, .ref m23, .int 0, .ref m25, .ref m26, .ref m27, .ref m28, .ref m29, .int 0, .ref m31, .ref m32, .ref m33, .int 0, .int 0, .int 0, .ref m37, .ref m38, .ref m39, .ref m40, .long 0])), (m16, .inl (k 0, 5, .inl f16)), (m17, .inl (k 0, 30, .inl f17)), (m18, .inl (k 0, 250, .inl f18)), (m19, .inl (k 0, 40, .inl f19)), (m20, .inl (k 0, 120, .inl f20)), (m21, .inl (k 0, 20, .inl f21)), (m22, .inl (k 0, 600, .inl f22))] s.heap.size = A at hD ⊢
  have hA : ∀ q : Nat, s.heap.size ≤ q → A q := fun q h => by rw [← hAe]; exact Or.inr h
  have hS : va_S A s.heap s.heap [] := va_S.rf
  have hl := lv_entry ([.ref mo, .int 0, .int 3]) (n := 3) (Nat.le_of_ble_eq_true rfl)
  rw [lg_entry_eq]
  generalize (lg_sl ([.ref mo, .int 0, .int 3]) ++ List.replicate (3 - (lg_sl ([.ref mo, .int 0, .int 3])).length) Slot.unset).toArray = ls at hl ⊢
  have hl : lv_has ls 3 [(0, .ref mo), (1, .int 0), (2, .int 3)] := hl
  refine lv_aload_n hx hb dX12_copyTown_0 rfl (lv_at hl 0 rfl) ?_
  refine va_get (D := D) (ci := 12) (v := .ref m16) (C := RX12) (T := TX12) (N := 42) hx hb hts iT_X12 hown hK hP 0 rfl rfl 16 (by decide) (hts _ tw_6_69) (fun _ h9 => h9) rfl dX12_copyTown_1 ?_
  refine lv_iconst (v := 1) hx hb dX12_copyTown_4 (by decide) ?_
  refine lv_iload_n hx hb dX12_copyTown_5 rfl (lv_at hl 1 rfl) ?_
  refine lv_iload_n hx hb dX12_copyTown_6 rfl (lv_at hl 2 rfl) ?_
  have hPc := hP.sub (ws' := [(m16, .inl (k 0, 5, .inl f16))]) [1] rfl
  have hDc := hD.sub (ws' := [(m16, .inl (k 0, 5, .inl f16))]) [1] (by decide) rfl
  have hFc := va_free (wc := [(m16, .inl (k 0, 5, .inl f16))]) hD hS hA [1] rfl
  refine va_callv (va_runS (As := [.ref m16, .int 1, .int 0, .int 3]) (rest := []) ⟨hx, hb, hml, hown, hts⟩ (c_X12_copyRow_5_0_3 l D k m16 f16 s.heap.size) (va_cwS 4 hts (gS tw_7_91 tw_7_92 tw_1_13 tw_7_93) rfl rfl rfl hdS_X12_copyRow ⟨Nat.le_of_ble_eq_true rfl, Nat.le_of_ble_eq_true rfl⟩) (cz_S hK hPc hDc hN [.ref m16, .int 1, .int 0, .int 3]) rfl rfl hl.1 rfl (lv_room (Nat.le_of_ble_eq_true rfl)) dX12_copyTown_7 ⟨Nat.le_of_ble_eq_true rfl, Nat.le_of_ble_eq_true rfl⟩) hS (fun q _ h => hFc q h) hFc (fun uZ tZ H1 locs ht hvm hw hB hz1 hk1 hS => ?_)
  obtain ⟨o_2, rfl⟩ : ∃ z, z = uZ := ⟨_, rfl⟩
  obtain ⟨hP1, hK1, hD1⟩ := hB
  rw [ht] at hP1
  obtain ⟨hP, hD⟩ := va_join (wr := [(mo, .inr (12, [.int 0, .ref m1, .ref m2, .ref m3, .ref m4, .ref m5, .int 0, .int 0, .int 0, .int 0, .int 0, .long 0, .int 0, .int 0, .int 0, .int (-1), .ref m16, .ref m17, .ref m18, .ref m19, .ref m20, .ref m21, .ref m22, .ref m23, .int 0, .ref m25, .ref m26, .ref m27, .ref m28, .ref m29, .int 0, .ref m31, .ref m32, .ref m33, .int 0, .int 0, .int 0, .ref m37, .ref m38, .ref m39, .ref m40, .long 0])), (m17, .inl (k 0, 30, .inl f17)), (m18, .inl (k 0, 250, .inl f18)), (m19, .inl (k 0, 40, .inl f19)), (m20, .inl (k 0, 120, .inl f20)), (m21, .inl (k 0, 20, .inl f21)), (m22, .inl (k 0, 600, .inl f22))]) (w1 := [(m16, .inl (k 0, 5, .inl o_2))]) hP hD [1] [0, 2, 3, 4, 5, 6, 7] rfl rfl (by decide) (by decide) hk1 hFc hP1 hD1
  clear hK1 hP1 hD1 hPc hDc hFc
  clear hk1 hz1 ht hvm
  have hP : va_P D vwCl [(mo, .inr (12, [.int 0, .ref m1, .ref m2, .ref m3, .ref m4, .ref m5, .int 0, .int 0, .int 0, .int 0, .int 0, .long 0, .int 0, .int 0, .int 0, .int (-1), .ref m16, .ref m17, .ref m18, .ref m19, .ref m20, .ref m21, .ref m22, .ref m23, .int 0, .ref m25, .ref m26, .ref m27, .ref m28, .ref m29, .int 0, .ref m31, .ref m32, .ref m33, .int 0, .int 0, .int 0, .ref m37, .ref m38, .ref m39, .ref m40, .long 0])), (m17, .inl (k 0, 30, .inl f17)), (m18, .inl (k 0, 250, .inl f18)), (m19, .inl (k 0, 40, .inl f19)), (m20, .inl (k 0, 120, .inl f20)), (m21, .inl (k 0, 20, .inl f21)), (m22, .inl (k 0, 600, .inl f22)), (m16, .inl (k 0, 5, .inl o_2))] H1 := hP
  have hD : va_D A [(mo, .inr (12, [.int 0, .ref m1, .ref m2, .ref m3, .ref m4, .ref m5, .int 0, .int 0, .int 0, .int 0, .int 0, .long 0, .int 0, .int 0, .int 0, .int (-1), .ref m16, .ref m17, .ref m18, .ref m19, .ref m20, .ref m21, .ref m22, .ref m23, .int 0, .ref m25, .ref m26, .ref m27, .ref m28, .ref m29, .int 0, .ref m31, .ref m32, .ref m33, .int 0, .int 0, .int 0, .ref m37, .ref m38, .ref m39, .ref m40, .long 0])), (m17, .inl (k 0, 30, .inl f17)), (m18, .inl (k 0, 250, .inl f18)), (m19, .inl (k 0, 40, .inl f19)), (m20, .inl (k 0, 120, .inl f20)), (m21, .inl (k 0, 20, .inl f21)), (m22, .inl (k 0, 600, .inl f22)), (m16, .inl (k 0, 5, .inl o_2))] := hD
  generalize H1 = H at hP hS ⊢
  have hw_3 : (∀ j : Nat, f16 j = (0 : Int32)) → ∀ j : Nat, o_2 j = (0 : Int32) := hw
  clear hw
  refine lv_aload_n hx hb dX12_copyTown_10 rfl (lv_at hl 0 rfl) ?_
  refine va_get (D := D) (ci := 12) (v := .ref m17) (C := RX12) (T := TX12) (N := 42) hx hb hts iT_X12 hown hK hP 0 rfl rfl 17 (by decide) (hts _ tw_6_70) (fun _ h9 => h9) rfl dX12_copyTown_11 ?_
  refine lv_bipush (v := 6) hx hb dX12_copyTown_14 (by decide) ?_
  refine lv_iload_n hx hb dX12_copyTown_16 rfl (lv_at hl 1 rfl) ?_
  refine lv_iload_n hx hb dX12_copyTown_17 rfl (lv_at hl 2 rfl) ?_
  have hPc := hP.sub (ws' := [(m17, .inl (k 0, 30, .inl f17))]) [1] rfl
  have hDc := hD.sub (ws' := [(m17, .inl (k 0, 30, .inl f17))]) [1] (by decide) rfl
  have hFc := va_free (wc := [(m17, .inl (k 0, 30, .inl f17))]) hD hS hA [1] rfl
  refine va_callv (va_runS (As := [.ref m17, .int 6, .int 0, .int 3]) (rest := []) ⟨hx, hb, hml, hown, hts⟩ (c_X12_copyRow_30_0_3 l D k m17 f17 H.size) (va_cwS 4 hts (gS tw_7_91 tw_7_92 tw_1_13 tw_7_93) rfl rfl rfl hdS_X12_copyRow ⟨Nat.le_of_ble_eq_true rfl, Nat.le_of_ble_eq_true rfl⟩) (cz_S hK hPc hDc hN [.ref m17, .int 6, .int 0, .int 3]) rfl rfl hl.1 rfl (lv_room (Nat.le_of_ble_eq_true rfl)) dX12_copyTown_18 ⟨Nat.le_of_ble_eq_true rfl, Nat.le_of_ble_eq_true rfl⟩) hS (fun q _ h => hFc q h) hFc (fun uZ tZ H1 locs ht hvm hw hB hz1 hk1 hS => ?_)
  obtain ⟨o_5, rfl⟩ : ∃ z, z = uZ := ⟨_, rfl⟩
  obtain ⟨hP1, hK1, hD1⟩ := hB
  rw [ht] at hP1
  obtain ⟨hP, hD⟩ := va_join (wr := [(mo, .inr (12, [.int 0, .ref m1, .ref m2, .ref m3, .ref m4, .ref m5, .int 0, .int 0, .int 0, .int 0, .int 0, .long 0, .int 0, .int 0, .int 0, .int (-1), .ref m16, .ref m17, .ref m18, .ref m19, .ref m20, .ref m21, .ref m22, .ref m23, .int 0, .ref m25, .ref m26, .ref m27, .ref m28, .ref m29, .int 0, .ref m31, .ref m32, .ref m33, .int 0, .int 0, .int 0, .ref m37, .ref m38, .ref m39, .ref m40, .long 0])), (m18, .inl (k 0, 250, .inl f18)), (m19, .inl (k 0, 40, .inl f19)), (m20, .inl (k 0, 120, .inl f20)), (m21, .inl (k 0, 20, .inl f21)), (m22, .inl (k 0, 600, .inl f22)), (m16, .inl (k 0, 5, .inl o_2))]) (w1 := [(m17, .inl (k 0, 30, .inl o_5))]) hP hD [1] [0, 2, 3, 4, 5, 6, 7] rfl rfl (by decide) (by decide) hk1 hFc hP1 hD1
  clear hK1 hP1 hD1 hPc hDc hFc
  clear hk1 hz1 ht hvm
  have hP : va_P D vwCl [(mo, .inr (12, [.int 0, .ref m1, .ref m2, .ref m3, .ref m4, .ref m5, .int 0, .int 0, .int 0, .int 0, .int 0, .long 0, .int 0, .int 0, .int 0, .int (-1), .ref m16, .ref m17, .ref m18, .ref m19, .ref m20, .ref m21, .ref m22, .ref m23, .int 0, .ref m25, .ref m26, .ref m27, .ref m28, .ref m29, .int 0, .ref m31, .ref m32, .ref m33, .int 0, .int 0, .int 0, .ref m37, .ref m38, .ref m39, .ref m40, .long 0])), (m18, .inl (k 0, 250, .inl f18)), (m19, .inl (k 0, 40, .inl f19)), (m20, .inl (k 0, 120, .inl f20)), (m21, .inl (k 0, 20, .inl f21)), (m22, .inl (k 0, 600, .inl f22)), (m16, .inl (k 0, 5, .inl o_2)), (m17, .inl (k 0, 30, .inl o_5))] H1 := hP
  have hD : va_D A [(mo, .inr (12, [.int 0, .ref m1, .ref m2, .ref m3, .ref m4, .ref m5, .int 0, .int 0, .int 0, .int 0, .int 0, .long 0, .int 0, .int 0, .int 0, .int (-1), .ref m16, .ref m17, .ref m18, .ref m19, .ref m20, .ref m21, .ref m22, .ref m23, .int 0, .ref m25, .ref m26, .ref m27, .ref m28, .ref m29, .int 0, .ref m31, .ref m32, .ref m33, .int 0, .int 0, .int 0, .ref m37, .ref m38, .ref m39, .ref m40, .long 0])), (m18, .inl (k 0, 250, .inl f18)), (m19, .inl (k 0, 40, .inl f19)), (m20, .inl (k 0, 120, .inl f20)), (m21, .inl (k 0, 20, .inl f21)), (m22, .inl (k 0, 600, .inl f22)), (m16, .inl (k 0, 5, .inl o_2)), (m17, .inl (k 0, 30, .inl o_5))] := hD
  generalize H1 = H at hP hS ⊢
  have hw_6 : (∀ j : Nat, f17 j = (0 : Int32)) → ∀ j : Nat, o_5 j = (0 : Int32) := hw
  clear hw
  refine lv_aload_n hx hb dX12_copyTown_21 rfl (lv_at hl 0 rfl) ?_
  refine va_get (D := D) (ci := 12) (v := .ref m18) (C := RX12) (T := TX12) (N := 42) hx hb hts iT_X12 hown hK hP 0 rfl rfl 18 (by decide) (hts _ tw_6_71) (fun _ h9 => h9) rfl dX12_copyTown_22 ?_
  refine lv_bipush (v := 50) hx hb dX12_copyTown_25 (by decide) ?_
  refine lv_iload_n hx hb dX12_copyTown_27 rfl (lv_at hl 1 rfl) ?_
  refine lv_iload_n hx hb dX12_copyTown_28 rfl (lv_at hl 2 rfl) ?_
  have hPc := hP.sub (ws' := [(m18, .inl (k 0, 250, .inl f18))]) [1] rfl
  have hDc := hD.sub (ws' := [(m18, .inl (k 0, 250, .inl f18))]) [1] (by decide) rfl
  have hFc := va_free (wc := [(m18, .inl (k 0, 250, .inl f18))]) hD hS hA [1] rfl
  refine va_callv (va_runS (As := [.ref m18, .int 50, .int 0, .int 3]) (rest := []) ⟨hx, hb, hml, hown, hts⟩ (c_X12_copyRow_250_0_3 l D k m18 f18 H.size) (va_cwS 4 hts (gS tw_7_91 tw_7_92 tw_1_13 tw_7_93) rfl rfl rfl hdS_X12_copyRow ⟨Nat.le_of_ble_eq_true rfl, Nat.le_of_ble_eq_true rfl⟩) (cz_S hK hPc hDc hN [.ref m18, .int 50, .int 0, .int 3]) rfl rfl hl.1 rfl (lv_room (Nat.le_of_ble_eq_true rfl)) dX12_copyTown_29 ⟨Nat.le_of_ble_eq_true rfl, Nat.le_of_ble_eq_true rfl⟩) hS (fun q _ h => hFc q h) hFc (fun uZ tZ H1 locs ht hvm hw hB hz1 hk1 hS => ?_)
  obtain ⟨o_8, rfl⟩ : ∃ z, z = uZ := ⟨_, rfl⟩
  obtain ⟨hP1, hK1, hD1⟩ := hB
  rw [ht] at hP1
  obtain ⟨hP, hD⟩ := va_join (wr := [(mo, .inr (12, [.int 0, .ref m1, .ref m2, .ref m3, .ref m4, .ref m5, .int 0, .int 0, .int 0, .int 0, .int 0, .long 0, .int 0, .int 0, .int 0, .int (-1), .ref m16, .ref m17, .ref m18, .ref m19, .ref m20, .ref m21, .ref m22, .ref m23, .int 0, .ref m25, .ref m26, .ref m27, .ref m28, .ref m29, .int 0, .ref m31, .ref m32, .ref m33, .int 0, .int 0, .int 0, .ref m37, .ref m38, .ref m39, .ref m40, .long 0])), (m19, .inl (k 0, 40, .inl f19)), (m20, .inl (k 0, 120, .inl f20)), (m21, .inl (k 0, 20, .inl f21)), (m22, .inl (k 0, 600, .inl f22)), (m16, .inl (k 0, 5, .inl o_2)), (m17, .inl (k 0, 30, .inl o_5))]) (w1 := [(m18, .inl (k 0, 250, .inl o_8))]) hP hD [1] [0, 2, 3, 4, 5, 6, 7] rfl rfl (by decide) (by decide) hk1 hFc hP1 hD1
  clear hK1 hP1 hD1 hPc hDc hFc
  clear hk1 hz1 ht hvm
  have hP : va_P D vwCl [(mo, .inr (12, [.int 0, .ref m1, .ref m2, .ref m3, .ref m4, .ref m5, .int 0, .int 0, .int 0, .int 0, .int 0, .long 0, .int 0, .int 0, .int 0, .int (-1), .ref m16, .ref m17, .ref m18, .ref m19, .ref m20, .ref m21, .ref m22, .ref m23, .int 0, .ref m25, .ref m26, .ref m27, .ref m28, .ref m29, .int 0, .ref m31, .ref m32, .ref m33, .int 0, .int 0, .int 0, .ref m37, .ref m38, .ref m39, .ref m40, .long 0])), (m19, .inl (k 0, 40, .inl f19)), (m20, .inl (k 0, 120, .inl f20)), (m21, .inl (k 0, 20, .inl f21)), (m22, .inl (k 0, 600, .inl f22)), (m16, .inl (k 0, 5, .inl o_2)), (m17, .inl (k 0, 30, .inl o_5)), (m18, .inl (k 0, 250, .inl o_8))] H1 := hP
  have hD : va_D A [(mo, .inr (12, [.int 0, .ref m1, .ref m2, .ref m3, .ref m4, .ref m5, .int 0, .int 0, .int 0, .int 0, .int 0, .long 0, .int 0, .int 0, .int 0, .int (-1), .ref m16, .ref m17, .ref m18, .ref m19, .ref m20, .ref m21, .ref m22, .ref m23, .int 0, .ref m25, .ref m26, .ref m27, .ref m28, .ref m29, .int 0, .ref m31, .ref m32, .ref m33, .int 0, .int 0, .int 0, .ref m37, .ref m38, .ref m39, .ref m40, .long 0])), (m19, .inl (k 0, 40, .inl f19)), (m20, .inl (k 0, 120, .inl f20)), (m21, .inl (k 0, 20, .inl f21)), (m22, .inl (k 0, 600, .inl f22)), (m16, .inl (k 0, 5, .inl o_2)), (m17, .inl (k 0, 30, .inl o_5)), (m18, .inl (k 0, 250, .inl o_8))] := hD
  generalize H1 = H at hP hS ⊢
  have hw_9 : (∀ j : Nat, f18 j = (0 : Int32)) → ∀ j : Nat, o_8 j = (0 : Int32) := hw
  clear hw
  refine lv_aload_n hx hb dX12_copyTown_32 rfl (lv_at hl 0 rfl) ?_
  refine va_get (D := D) (ci := 12) (v := .ref m19) (C := RX12) (T := TX12) (N := 42) hx hb hts iT_X12 hown hK hP 0 rfl rfl 19 (by decide) (hts _ tw_6_72) (fun _ h9 => h9) rfl dX12_copyTown_33 ?_
  refine lv_bipush (v := 8) hx hb dX12_copyTown_36 (by decide) ?_
  refine lv_iload_n hx hb dX12_copyTown_38 rfl (lv_at hl 1 rfl) ?_
  refine lv_iload_n hx hb dX12_copyTown_39 rfl (lv_at hl 2 rfl) ?_
  have hPc := hP.sub (ws' := [(m19, .inl (k 0, 40, .inl f19))]) [1] rfl
  have hDc := hD.sub (ws' := [(m19, .inl (k 0, 40, .inl f19))]) [1] (by decide) rfl
  have hFc := va_free (wc := [(m19, .inl (k 0, 40, .inl f19))]) hD hS hA [1] rfl
  refine va_callv (va_runS (As := [.ref m19, .int 8, .int 0, .int 3]) (rest := []) ⟨hx, hb, hml, hown, hts⟩ (c_X12_copyRow_40_0_3 l D k m19 f19 H.size) (va_cwS 4 hts (gS tw_7_91 tw_7_92 tw_1_13 tw_7_93) rfl rfl rfl hdS_X12_copyRow ⟨Nat.le_of_ble_eq_true rfl, Nat.le_of_ble_eq_true rfl⟩) (cz_S hK hPc hDc hN [.ref m19, .int 8, .int 0, .int 3]) rfl rfl hl.1 rfl (lv_room (Nat.le_of_ble_eq_true rfl)) dX12_copyTown_40 ⟨Nat.le_of_ble_eq_true rfl, Nat.le_of_ble_eq_true rfl⟩) hS (fun q _ h => hFc q h) hFc (fun uZ tZ H1 locs ht hvm hw hB hz1 hk1 hS => ?_)
  obtain ⟨o_11, rfl⟩ : ∃ z, z = uZ := ⟨_, rfl⟩
  obtain ⟨hP1, hK1, hD1⟩ := hB
  rw [ht] at hP1
  obtain ⟨hP, hD⟩ := va_join (wr := [(mo, .inr (12, [.int 0, .ref m1, .ref m2, .ref m3, .ref m4, .ref m5, .int 0, .int 0, .int 0, .int 0, .int 0, .long 0, .int 0, .int 0, .int 0, .int (-1), .ref m16, .ref m17, .ref m18, .ref m19, .ref m20, .ref m21, .ref m22, .ref m23, .int 0, .ref m25, .ref m26, .ref m27, .ref m28, .ref m29, .int 0, .ref m31, .ref m32, .ref m33, .int 0, .int 0, .int 0, .ref m37, .ref m38, .ref m39, .ref m40, .long 0])), (m20, .inl (k 0, 120, .inl f20)), (m21, .inl (k 0, 20, .inl f21)), (m22, .inl (k 0, 600, .inl f22)), (m16, .inl (k 0, 5, .inl o_2)), (m17, .inl (k 0, 30, .inl o_5)), (m18, .inl (k 0, 250, .inl o_8))]) (w1 := [(m19, .inl (k 0, 40, .inl o_11))]) hP hD [1] [0, 2, 3, 4, 5, 6, 7] rfl rfl (by decide) (by decide) hk1 hFc hP1 hD1
  clear hK1 hP1 hD1 hPc hDc hFc
  clear hk1 hz1 ht hvm
  have hP : va_P D vwCl [(mo, .inr (12, [.int 0, .ref m1, .ref m2, .ref m3, .ref m4, .ref m5, .int 0, .int 0, .int 0, .int 0, .int 0, .long 0, .int 0, .int 0, .int 0, .int (-1), .ref m16, .ref m17, .ref m18, .ref m19, .ref m20, .ref m21, .ref m22, .ref m23, .int 0, .ref m25, .ref m26, .ref m27, .ref m28, .ref m29, .int 0, .ref m31, .ref m32, .ref m33, .int 0, .int 0, .int 0, .ref m37, .ref m38, .ref m39, .ref m40, .long 0])), (m20, .inl (k 0, 120, .inl f20)), (m21, .inl (k 0, 20, .inl f21)), (m22, .inl (k 0, 600, .inl f22)), (m16, .inl (k 0, 5, .inl o_2)), (m17, .inl (k 0, 30, .inl o_5)), (m18, .inl (k 0, 250, .inl o_8)), (m19, .inl (k 0, 40, .inl o_11))] H1 := hP
  have hD : va_D A [(mo, .inr (12, [.int 0, .ref m1, .ref m2, .ref m3, .ref m4, .ref m5, .int 0, .int 0, .int 0, .int 0, .int 0, .long 0, .int 0, .int 0, .int 0, .int (-1), .ref m16, .ref m17, .ref m18, .ref m19, .ref m20, .ref m21, .ref m22, .ref m23, .int 0, .ref m25, .ref m26, .ref m27, .ref m28, .ref m29, .int 0, .ref m31, .ref m32, .ref m33, .int 0, .int 0, .int 0, .ref m37, .ref m38, .ref m39, .ref m40, .long 0])), (m20, .inl (k 0, 120, .inl f20)), (m21, .inl (k 0, 20, .inl f21)), (m22, .inl (k 0, 600, .inl f22)), (m16, .inl (k 0, 5, .inl o_2)), (m17, .inl (k 0, 30, .inl o_5)), (m18, .inl (k 0, 250, .inl o_8)), (m19, .inl (k 0, 40, .inl o_11))] := hD
  generalize H1 = H at hP hS ⊢
  have hw_12 : (∀ j : Nat, f19 j = (0 : Int32)) → ∀ j : Nat, o_11 j = (0 : Int32) := hw
  clear hw
  refine lv_aload_n hx hb dX12_copyTown_43 rfl (lv_at hl 0 rfl) ?_
  refine va_get (D := D) (ci := 12) (v := .ref m20) (C := RX12) (T := TX12) (N := 42) hx hb hts iT_X12 hown hK hP 0 rfl rfl 20 (by decide) (hts _ tw_6_73) (fun _ h9 => h9) rfl dX12_copyTown_44 ?_
  refine lv_bipush (v := 24) hx hb dX12_copyTown_47 (by decide) ?_
  refine lv_iload_n hx hb dX12_copyTown_49 rfl (lv_at hl 1 rfl) ?_
  refine lv_iload_n hx hb dX12_copyTown_50 rfl (lv_at hl 2 rfl) ?_
  have hPc := hP.sub (ws' := [(m20, .inl (k 0, 120, .inl f20))]) [1] rfl
  have hDc := hD.sub (ws' := [(m20, .inl (k 0, 120, .inl f20))]) [1] (by decide) rfl
  have hFc := va_free (wc := [(m20, .inl (k 0, 120, .inl f20))]) hD hS hA [1] rfl
  refine va_callv (va_runS (As := [.ref m20, .int 24, .int 0, .int 3]) (rest := []) ⟨hx, hb, hml, hown, hts⟩ (c_X12_copyRow_120_0_3 l D k m20 f20 H.size) (va_cwS 4 hts (gS tw_7_91 tw_7_92 tw_1_13 tw_7_93) rfl rfl rfl hdS_X12_copyRow ⟨Nat.le_of_ble_eq_true rfl, Nat.le_of_ble_eq_true rfl⟩) (cz_S hK hPc hDc hN [.ref m20, .int 24, .int 0, .int 3]) rfl rfl hl.1 rfl (lv_room (Nat.le_of_ble_eq_true rfl)) dX12_copyTown_51 ⟨Nat.le_of_ble_eq_true rfl, Nat.le_of_ble_eq_true rfl⟩) hS (fun q _ h => hFc q h) hFc (fun uZ tZ H1 locs ht hvm hw hB hz1 hk1 hS => ?_)
  obtain ⟨o_14, rfl⟩ : ∃ z, z = uZ := ⟨_, rfl⟩
  obtain ⟨hP1, hK1, hD1⟩ := hB
  rw [ht] at hP1
  obtain ⟨hP, hD⟩ := va_join (wr := [(mo, .inr (12, [.int 0, .ref m1, .ref m2, .ref m3, .ref m4, .ref m5, .int 0, .int 0, .int 0, .int 0, .int 0, .long 0, .int 0, .int 0, .int 0, .int (-1), .ref m16, .ref m17, .ref m18, .ref m19, .ref m20, .ref m21, .ref m22, .ref m23, .int 0, .ref m25, .ref m26, .ref m27, .ref m28, .ref m29, .int 0, .ref m31, .ref m32, .ref m33, .int 0, .int 0, .int 0, .ref m37, .ref m38, .ref m39, .ref m40, .long 0])), (m21, .inl (k 0, 20, .inl f21)), (m22, .inl (k 0, 600, .inl f22)), (m16, .inl (k 0, 5, .inl o_2)), (m17, .inl (k 0, 30, .inl o_5)), (m18, .inl (k 0, 250, .inl o_8)), (m19, .inl (k 0, 40, .inl o_11))]) (w1 := [(m20, .inl (k 0, 120, .inl o_14))]) hP hD [1] [0, 2, 3, 4, 5, 6, 7] rfl rfl (by decide) (by decide) hk1 hFc hP1 hD1
  clear hK1 hP1 hD1 hPc hDc hFc
  clear hk1 hz1 ht hvm
  have hP : va_P D vwCl [(mo, .inr (12, [.int 0, .ref m1, .ref m2, .ref m3, .ref m4, .ref m5, .int 0, .int 0, .int 0, .int 0, .int 0, .long 0, .int 0, .int 0, .int 0, .int (-1), .ref m16, .ref m17, .ref m18, .ref m19, .ref m20, .ref m21, .ref m22, .ref m23, .int 0, .ref m25, .ref m26, .ref m27, .ref m28, .ref m29, .int 0, .ref m31, .ref m32, .ref m33, .int 0, .int 0, .int 0, .ref m37, .ref m38, .ref m39, .ref m40, .long 0])), (m21, .inl (k 0, 20, .inl f21)), (m22, .inl (k 0, 600, .inl f22)), (m16, .inl (k 0, 5, .inl o_2)), (m17, .inl (k 0, 30, .inl o_5)), (m18, .inl (k 0, 250, .inl o_8)), (m19, .inl (k 0, 40, .inl o_11)), (m20, .inl (k 0, 120, .inl o_14))] H1 := hP
  have hD : va_D A [(mo, .inr (12, [.int 0, .ref m1, .ref m2, .ref m3, .ref m4, .ref m5, .int 0, .int 0, .int 0, .int 0, .int 0, .long 0, .int 0, .int 0, .int 0, .int (-1), .ref m16, .ref m17, .ref m18, .ref m19, .ref m20, .ref m21, .ref m22, .ref m23, .int 0, .ref m25, .ref m26, .ref m27, .ref m28, .ref m29, .int 0, .ref m31, .ref m32, .ref m33, .int 0, .int 0, .int 0, .ref m37, .ref m38, .ref m39, .ref m40, .long 0])), (m21, .inl (k 0, 20, .inl f21)), (m22, .inl (k 0, 600, .inl f22)), (m16, .inl (k 0, 5, .inl o_2)), (m17, .inl (k 0, 30, .inl o_5)), (m18, .inl (k 0, 250, .inl o_8)), (m19, .inl (k 0, 40, .inl o_11)), (m20, .inl (k 0, 120, .inl o_14))] := hD
  generalize H1 = H at hP hS ⊢
  have hw_15 : (∀ j : Nat, f20 j = (0 : Int32)) → ∀ j : Nat, o_14 j = (0 : Int32) := hw
  clear hw
  refine lv_aload_n hx hb dX12_copyTown_54 rfl (lv_at hl 0 rfl) ?_
  refine va_get (D := D) (ci := 12) (v := .ref m21) (C := RX12) (T := TX12) (N := 42) hx hb hts iT_X12 hown hK hP 0 rfl rfl 21 (by decide) (hts _ tw_6_74) (fun _ h9 => h9) rfl dX12_copyTown_55 ?_
  refine lv_iconst (v := 4) hx hb dX12_copyTown_58 (by decide) ?_
  refine lv_iload_n hx hb dX12_copyTown_59 rfl (lv_at hl 1 rfl) ?_
  refine lv_iload_n hx hb dX12_copyTown_60 rfl (lv_at hl 2 rfl) ?_
  have hPc := hP.sub (ws' := [(m21, .inl (k 0, 20, .inl f21))]) [1] rfl
  have hDc := hD.sub (ws' := [(m21, .inl (k 0, 20, .inl f21))]) [1] (by decide) rfl
  have hFc := va_free (wc := [(m21, .inl (k 0, 20, .inl f21))]) hD hS hA [1] rfl
  refine va_callv (va_runS (As := [.ref m21, .int 4, .int 0, .int 3]) (rest := []) ⟨hx, hb, hml, hown, hts⟩ (c_X12_copyRow_20_0_3 l D k m21 f21 H.size) (va_cwS 4 hts (gS tw_7_91 tw_7_92 tw_1_13 tw_7_93) rfl rfl rfl hdS_X12_copyRow ⟨Nat.le_of_ble_eq_true rfl, Nat.le_of_ble_eq_true rfl⟩) (cz_S hK hPc hDc hN [.ref m21, .int 4, .int 0, .int 3]) rfl rfl hl.1 rfl (lv_room (Nat.le_of_ble_eq_true rfl)) dX12_copyTown_61 ⟨Nat.le_of_ble_eq_true rfl, Nat.le_of_ble_eq_true rfl⟩) hS (fun q _ h => hFc q h) hFc (fun uZ tZ H1 locs ht hvm hw hB hz1 hk1 hS => ?_)
  obtain ⟨o_17, rfl⟩ : ∃ z, z = uZ := ⟨_, rfl⟩
  obtain ⟨hP1, hK1, hD1⟩ := hB
  rw [ht] at hP1
  obtain ⟨hP, hD⟩ := va_join (wr := [(mo, .inr (12, [.int 0, .ref m1, .ref m2, .ref m3, .ref m4, .ref m5, .int 0, .int 0, .int 0, .int 0, .int 0, .long 0, .int 0, .int 0, .int 0, .int (-1), .ref m16, .ref m17, .ref m18, .ref m19, .ref m20, .ref m21, .ref m22, .ref m23, .int 0, .ref m25, .ref m26, .ref m27, .ref m28, .ref m29, .int 0, .ref m31, .ref m32, .ref m33, .int 0, .int 0, .int 0, .ref m37, .ref m38, .ref m39, .ref m40, .long 0])), (m22, .inl (k 0, 600, .inl f22)), (m16, .inl (k 0, 5, .inl o_2)), (m17, .inl (k 0, 30, .inl o_5)), (m18, .inl (k 0, 250, .inl o_8)), (m19, .inl (k 0, 40, .inl o_11)), (m20, .inl (k 0, 120, .inl o_14))]) (w1 := [(m21, .inl (k 0, 20, .inl o_17))]) hP hD [1] [0, 2, 3, 4, 5, 6, 7] rfl rfl (by decide) (by decide) hk1 hFc hP1 hD1
  clear hK1 hP1 hD1 hPc hDc hFc
  clear hk1 hz1 ht hvm
  have hP : va_P D vwCl [(mo, .inr (12, [.int 0, .ref m1, .ref m2, .ref m3, .ref m4, .ref m5, .int 0, .int 0, .int 0, .int 0, .int 0, .long 0, .int 0, .int 0, .int 0, .int (-1), .ref m16, .ref m17, .ref m18, .ref m19, .ref m20, .ref m21, .ref m22, .ref m23, .int 0, .ref m25, .ref m26, .ref m27, .ref m28, .ref m29, .int 0, .ref m31, .ref m32, .ref m33, .int 0, .int 0, .int 0, .ref m37, .ref m38, .ref m39, .ref m40, .long 0])), (m22, .inl (k 0, 600, .inl f22)), (m16, .inl (k 0, 5, .inl o_2)), (m17, .inl (k 0, 30, .inl o_5)), (m18, .inl (k 0, 250, .inl o_8)), (m19, .inl (k 0, 40, .inl o_11)), (m20, .inl (k 0, 120, .inl o_14)), (m21, .inl (k 0, 20, .inl o_17))] H1 := hP
  have hD : va_D A [(mo, .inr (12, [.int 0, .ref m1, .ref m2, .ref m3, .ref m4, .ref m5, .int 0, .int 0, .int 0, .int 0, .int 0, .long 0, .int 0, .int 0, .int 0, .int (-1), .ref m16, .ref m17, .ref m18, .ref m19, .ref m20, .ref m21, .ref m22, .ref m23, .int 0, .ref m25, .ref m26, .ref m27, .ref m28, .ref m29, .int 0, .ref m31, .ref m32, .ref m33, .int 0, .int 0, .int 0, .ref m37, .ref m38, .ref m39, .ref m40, .long 0])), (m22, .inl (k 0, 600, .inl f22)), (m16, .inl (k 0, 5, .inl o_2)), (m17, .inl (k 0, 30, .inl o_5)), (m18, .inl (k 0, 250, .inl o_8)), (m19, .inl (k 0, 40, .inl o_11)), (m20, .inl (k 0, 120, .inl o_14)), (m21, .inl (k 0, 20, .inl o_17))] := hD
  generalize H1 = H at hP hS ⊢
  have hw_18 : (∀ j : Nat, f21 j = (0 : Int32)) → ∀ j : Nat, o_17 j = (0 : Int32) := hw
  clear hw
  refine lv_aload_n hx hb dX12_copyTown_64 rfl (lv_at hl 0 rfl) ?_
  refine va_get (D := D) (ci := 12) (v := .ref m22) (C := RX12) (T := TX12) (N := 42) hx hb hts iT_X12 hown hK hP 0 rfl rfl 22 (by decide) (hts _ tw_6_75) (fun _ h9 => h9) rfl dX12_copyTown_65 ?_
  refine lv_bipush (v := 120) hx hb dX12_copyTown_68 (by decide) ?_
  refine lv_iload_n hx hb dX12_copyTown_70 rfl (lv_at hl 1 rfl) ?_
  refine lv_iload_n hx hb dX12_copyTown_71 rfl (lv_at hl 2 rfl) ?_
  have hPc := hP.sub (ws' := [(m22, .inl (k 0, 600, .inl f22))]) [1] rfl
  have hDc := hD.sub (ws' := [(m22, .inl (k 0, 600, .inl f22))]) [1] (by decide) rfl
  have hFc := va_free (wc := [(m22, .inl (k 0, 600, .inl f22))]) hD hS hA [1] rfl
  refine va_callv (va_runS (As := [.ref m22, .int 120, .int 0, .int 3]) (rest := []) ⟨hx, hb, hml, hown, hts⟩ (c_X12_copyRow_600_0_3 l D k m22 f22 H.size) (va_cwS 4 hts (gS tw_7_91 tw_7_92 tw_1_13 tw_7_93) rfl rfl rfl hdS_X12_copyRow ⟨Nat.le_of_ble_eq_true rfl, Nat.le_of_ble_eq_true rfl⟩) (cz_S hK hPc hDc hN [.ref m22, .int 120, .int 0, .int 3]) rfl rfl hl.1 rfl (lv_room (Nat.le_of_ble_eq_true rfl)) dX12_copyTown_72 ⟨Nat.le_of_ble_eq_true rfl, Nat.le_of_ble_eq_true rfl⟩) hS (fun q _ h => hFc q h) hFc (fun uZ tZ H1 locs ht hvm hw hB hz1 hk1 hS => ?_)
  obtain ⟨o_20, rfl⟩ : ∃ z, z = uZ := ⟨_, rfl⟩
  obtain ⟨hP1, hK1, hD1⟩ := hB
  rw [ht] at hP1
  obtain ⟨hP, hD⟩ := va_join (wr := [(mo, .inr (12, [.int 0, .ref m1, .ref m2, .ref m3, .ref m4, .ref m5, .int 0, .int 0, .int 0, .int 0, .int 0, .long 0, .int 0, .int 0, .int 0, .int (-1), .ref m16, .ref m17, .ref m18, .ref m19, .ref m20, .ref m21, .ref m22, .ref m23, .int 0, .ref m25, .ref m26, .ref m27, .ref m28, .ref m29, .int 0, .ref m31, .ref m32, .ref m33, .int 0, .int 0, .int 0, .ref m37, .ref m38, .ref m39, .ref m40, .long 0])), (m16, .inl (k 0, 5, .inl o_2)), (m17, .inl (k 0, 30, .inl o_5)), (m18, .inl (k 0, 250, .inl o_8)), (m19, .inl (k 0, 40, .inl o_11)), (m20, .inl (k 0, 120, .inl o_14)), (m21, .inl (k 0, 20, .inl o_17))]) (w1 := [(m22, .inl (k 0, 600, .inl o_20))]) hP hD [1] [0, 2, 3, 4, 5, 6, 7] rfl rfl (by decide) (by decide) hk1 hFc hP1 hD1
  clear hK1 hP1 hD1 hPc hDc hFc
  clear hk1 hz1 ht hvm
  have hP : va_P D vwCl [(mo, .inr (12, [.int 0, .ref m1, .ref m2, .ref m3, .ref m4, .ref m5, .int 0, .int 0, .int 0, .int 0, .int 0, .long 0, .int 0, .int 0, .int 0, .int (-1), .ref m16, .ref m17, .ref m18, .ref m19, .ref m20, .ref m21, .ref m22, .ref m23, .int 0, .ref m25, .ref m26, .ref m27, .ref m28, .ref m29, .int 0, .ref m31, .ref m32, .ref m33, .int 0, .int 0, .int 0, .ref m37, .ref m38, .ref m39, .ref m40, .long 0])), (m16, .inl (k 0, 5, .inl o_2)), (m17, .inl (k 0, 30, .inl o_5)), (m18, .inl (k 0, 250, .inl o_8)), (m19, .inl (k 0, 40, .inl o_11)), (m20, .inl (k 0, 120, .inl o_14)), (m21, .inl (k 0, 20, .inl o_17)), (m22, .inl (k 0, 600, .inl o_20))] H1 := hP
  have hD : va_D A [(mo, .inr (12, [.int 0, .ref m1, .ref m2, .ref m3, .ref m4, .ref m5, .int 0, .int 0, .int 0, .int 0, .int 0, .long 0, .int 0, .int 0, .int 0, .int (-1), .ref m16, .ref m17, .ref m18, .ref m19, .ref m20, .ref m21, .ref m22, .ref m23, .int 0, .ref m25, .ref m26, .ref m27, .ref m28, .ref m29, .int 0, .ref m31, .ref m32, .ref m33, .int 0, .int 0, .int 0, .ref m37, .ref m38, .ref m39, .ref m40, .long 0])), (m16, .inl (k 0, 5, .inl o_2)), (m17, .inl (k 0, 30, .inl o_5)), (m18, .inl (k 0, 250, .inl o_8)), (m19, .inl (k 0, 40, .inl o_11)), (m20, .inl (k 0, 120, .inl o_14)), (m21, .inl (k 0, 20, .inl o_17)), (m22, .inl (k 0, 600, .inl o_20))] := hD
  generalize H1 = H at hP hS ⊢
  have hw_21 : (∀ j : Nat, f22 j = (0 : Int32)) → ∀ j : Nat, o_20 j = (0 : Int32) := hw
  clear hw
  have hP9 := hP.sub (ws' := [(mo, .inr (12, [.int 0, .ref m1, .ref m2, .ref m3, .ref m4, .ref m5, .int 0, .int 0, .int 0, .int 0, .int 0, .long 0, .int 0, .int 0, .int 0, .int (-1), .ref m16, .ref m17, .ref m18, .ref m19, .ref m20, .ref m21, .ref m22, .ref m23, .int 0, .ref m25, .ref m26, .ref m27, .ref m28, .ref m29, .int 0, .ref m31, .ref m32, .ref m33, .int 0, .int 0, .int 0, .ref m37, .ref m38, .ref m39, .ref m40, .long 0])), (m16, .inl (k 0, 5, .inl o_2)), (m17, .inl (k 0, 30, .inl o_5)), (m18, .inl (k 0, 250, .inl o_8)), (m19, .inl (k 0, 40, .inl o_11)), (m20, .inl (k 0, 120, .inl o_14)), (m21, .inl (k 0, 20, .inl o_17)), (m22, .inl (k 0, 600, .inl o_20))]) [0, 1, 2, 3, 4, 5, 6, 7] rfl
  have hD9 := hD.sub (ws' := [(mo, .inr (12, [.int 0, .ref m1, .ref m2, .ref m3, .ref m4, .ref m5, .int 0, .int 0, .int 0, .int 0, .int 0, .long 0, .int 0, .int 0, .int 0, .int (-1), .ref m16, .ref m17, .ref m18, .ref m19, .ref m20, .ref m21, .ref m22, .ref m23, .int 0, .ref m25, .ref m26, .ref m27, .ref m28, .ref m29, .int 0, .ref m31, .ref m32, .ref m33, .int 0, .int 0, .int 0, .ref m37, .ref m38, .ref m39, .ref m40, .long 0])), (m16, .inl (k 0, 5, .inl o_2)), (m17, .inl (k 0, 30, .inl o_5)), (m18, .inl (k 0, 250, .inl o_8)), (m19, .inl (k 0, 40, .inl o_11)), (m20, .inl (k 0, 120, .inl o_14)), (m21, .inl (k 0, 20, .inl o_17)), (m22, .inl (k 0, 600, .inl o_20))]) [0, 1, 2, 3, 4, 5, 6, 7] (by decide) rfl
  exact W.vret hx hb hr (fun tZ ht hW => ⟨⟨(o_2, o_5, o_8, o_11, o_14, o_17, o_20), rfl, hw_3, by rw [ht]; exact hP9, va_K.moved hW.alike hK, hD9⟩, hS.F ht⟩) hS.2.2 dX12_copyTown_75
set_option maxHeartbeats 4000000 in
set_option maxRecDepth 100000 in
theorem c_X12_town (l : Launch) (D : va_G) (k : Nat → ClassId) (mo : Nat) (m1 : Nat) (m2 : Nat) (m3 : Nat) (m4 : Nat) (m5 : Nat) (m16 : Nat) (m17 : Nat) (m18 : Nat) (m19 : Nat) (m20 : Nat) (m21 : Nat) (m22 : Nat) (m23 : Nat) (m25 : Nat) (m26 : Nat) (m27 : Nat) (m28 : Nat) (m29 : Nat) (m31 : Nat) (m32 : Nat) (m33 : Nat) (m37 : Nat) (m38 : Nat) (m39 : Nat) (m40 : Nat) (sz : Nat) : Met l yX12_town (ww yX12_town cX12_town 1 (some .int)) ({ frames := 3, cells := 0, slots := 0, locals := 64 }) (Pre0 D k [(mo, .inr (12, [.int 0, .ref m1, .ref m2, .ref m3, .ref m4, .ref m5, .int 0, .int 0, .int 0, .int 0, .int 0, .long 0, .int 0, .int 0, .int 0, .int (-1), .ref m16, .ref m17, .ref m18, .ref m19, .ref m20, .ref m21, .ref m22, .ref m23, .int 0, .ref m25, .ref m26, .ref m27, .ref m28, .ref m29, .int 0, .ref m31, .ref m32, .ref m33, .int 0, .int 0, .int 0, .ref m37, .ref m38, .ref m39, .ref m40, .long 0])), (m16, .inl (k 0, 5, .inl (fun _ => 0))), (m17, .inl (k 0, 30, .inl (fun _ => 0))), (m18, .inl (k 0, 250, .inl (fun _ => 0))), (m19, .inl (k 0, 40, .inl (fun _ => 0))), (m20, .inl (k 0, 120, .inl (fun _ => 0))), (m21, .inl (k 0, 20, .inl (fun _ => 0))), (m22, .inl (k 0, 600, .inl (fun _ => 0)))] sz [.ref mo]) (va_Qi (fun (r : Int32) (_ : Unit) => r = 0) (fun (_ : Unit) tZ => Bw D k (va_A [(mo, .inr (12, [.int 0, .ref m1, .ref m2, .ref m3, .ref m4, .ref m5, .int 0, .int 0, .int 0, .int 0, .int 0, .long 0, .int 0, .int 0, .int 0, .int (-1), .ref m16, .ref m17, .ref m18, .ref m19, .ref m20, .ref m21, .ref m22, .ref m23, .int 0, .ref m25, .ref m26, .ref m27, .ref m28, .ref m29, .int 0, .ref m31, .ref m32, .ref m33, .int 0, .int 0, .int 0, .ref m37, .ref m38, .ref m39, .ref m40, .long 0])), (m16, .inl (k 0, 5, .inl (fun _ => 0))), (m17, .inl (k 0, 30, .inl (fun _ => 0))), (m18, .inl (k 0, 250, .inl (fun _ => 0))), (m19, .inl (k 0, 40, .inl (fun _ => 0))), (m20, .inl (k 0, 120, .inl (fun _ => 0))), (m21, .inl (k 0, 20, .inl (fun _ => 0))), (m22, .inl (k 0, 600, .inl (fun _ => 0)))] sz) [] tZ) (va_A [(mo, .inr (12, [.int 0, .ref m1, .ref m2, .ref m3, .ref m4, .ref m5, .int 0, .int 0, .int 0, .int 0, .int 0, .long 0, .int 0, .int 0, .int 0, .int (-1), .ref m16, .ref m17, .ref m18, .ref m19, .ref m20, .ref m21, .ref m22, .ref m23, .int 0, .ref m25, .ref m26, .ref m27, .ref m28, .ref m29, .int 0, .ref m31, .ref m32, .ref m33, .int 0, .int 0, .int 0, .ref m37, .ref m38, .ref m39, .ref m40, .long 0])), (m16, .inl (k 0, 5, .inl (fun _ => 0))), (m17, .inl (k 0, 30, .inl (fun _ => 0))), (m18, .inl (k 0, 250, .inl (fun _ => 0))), (m19, .inl (k 0, 40, .inl (fun _ => 0))), (m20, .inl (k 0, 120, .inl (fun _ => 0))), (m21, .inl (k 0, 20, .inl (fun _ => 0))), (m22, .inl (k 0, 600, .inl (fun _ => 0)))] sz)) 0 0 (va_A [(mo, .inr (12, [.int 0, .ref m1, .ref m2, .ref m3, .ref m4, .ref m5, .int 0, .int 0, .int 0, .int 0, .int 0, .long 0, .int 0, .int 0, .int 0, .int (-1), .ref m16, .ref m17, .ref m18, .ref m19, .ref m20, .ref m21, .ref m22, .ref m23, .int 0, .ref m25, .ref m26, .ref m27, .ref m28, .ref m29, .int 0, .ref m31, .ref m32, .ref m33, .int 0, .int 0, .int 0, .ref m37, .ref m38, .ref m39, .ref m40, .long 0])), (m16, .inl (k 0, 5, .inl (fun _ => 0))), (m17, .inl (k 0, 30, .inl (fun _ => 0))), (m18, .inl (k 0, 250, .inl (fun _ => 0))), (m19, .inl (k 0, 40, .inl (fun _ => 0))), (m20, .inl (k 0, 120, .inl (fun _ => 0))), (m21, .inl (k 0, 20, .inl (fun _ => 0))), (m22, .inl (k 0, 600, .inl (fun _ => 0)))] sz) := by
  refine Met.ofW (cc := cX12_town) (maxL := 1) (ret := (some .int)) (by decide +kernel) rfl ?_
  intro p e s m args below meth c s₁ B hml hv
  obtain ⟨rfl, hsz, hP, hK, hD0, hN⟩ := hv
  have hx := B.exec
  have hb := B.bytes
  have hr := B.returns
  have hts : ∀ w ∈ TT, w.before _ s = true := fun w h => atoms_spec (ws := ww yX12_town cX12_town 1 (some .int)) B.pre w (List.mem_cons_of_mem _ h)
  have hown : s.vm.findClass RX12 = some m.cls := findClass_of_methodNamed B.named
  have hlocks := B.notSynchronized
  subst hsz
  have hD := hD0.self (sz := s.heap.size)
  generalize hAe : va_A [(mo, .inr (12, [.int 0, .ref m1, .ref m2, .ref m3, .ref m4, .ref m5, .int 0, .int 0, .int 0, .int 0, .int 0, .long 0, .int 0, .int 0, .int 0, .int (-1), .ref m16, .ref m17, .ref m18, .ref m19, .ref m20, .ref m21, .ref m22, .ref m23, .int 0, .ref m25, .ref m26, .ref m27, .ref m28, .ref m29, .int 0, .ref m31, .ref m32, .ref m33, .int 0, .int 0, .int 0, .ref m37, .ref m38, .ref m39, .ref m40, .long 0])), (m16, .inl (k 0, 5, .inl (fun _ => 0))), (m17, .inl (k 0, 30, .inl (fun _ => 0))), (m18, .inl (k 0, 250, .inl (fun _ => 0))), (m19, .inl (k 0, 40, .inl (fun _ => 0))), (m20, .inl (k 0, 120, .inl (fun _ => 0))), (m21, .inl (k 0, 20, .inl (fun _ => 0))), (m22, .inl (k 0, 600, .inl (fun _ => 0)))] s.heap.size = A at hD ⊢
  have hA : ∀ q : Nat, s.heap.size ≤ q → A q := fun q h => by rw [← hAe]; exact Or.inr h
  have hS : va_S A s.heap s.heap [] := va_S.rf
  have hl := lv_entry ([.ref mo]) (n := 1) (Nat.le_of_ble_eq_true rfl)
  rw [lg_entry_eq]
  generalize (lg_sl ([.ref mo]) ++ List.replicate (1 - (lg_sl ([.ref mo])).length) Slot.unset).toArray = ls at hl ⊢
  have hl : lv_has ls 1 [(0, .ref mo)] := hl
  refine lv_aload_n hx hb dX12_town_0 rfl (lv_at hl 0 rfl) ?_
  refine lv_iconst (v := 0) hx hb dX12_town_1 (by decide) ?_
  refine va_put (D := D) (ci := 12) (v := .int 0) (ty := tyX12 0) (C := RX12) (T := TX12) (N := 42) hx hb hts iT_X12 tyX12 tyX12_ok nmX12 hown hK hP hD hS 0 rfl rfl 0 (by decide) (hts _ tw_6_53) (fun _ h9 => h9) rfl (tyX12_ok 0 (by decide)) rfl rfl (Nat.le_of_ble_eq_true rfl) dX12_town_2 (fun H locs hP hD hS => ?_)
  have hP : va_P D vwCl [(mo, .inr (12, [.int 0, .ref m1, .ref m2, .ref m3, .ref m4, .ref m5, .int 0, .int 0, .int 0, .int 0, .int 0, .long 0, .int 0, .int 0, .int 0, .int (-1), .ref m16, .ref m17, .ref m18, .ref m19, .ref m20, .ref m21, .ref m22, .ref m23, .int 0, .ref m25, .ref m26, .ref m27, .ref m28, .ref m29, .int 0, .ref m31, .ref m32, .ref m33, .int 0, .int 0, .int 0, .ref m37, .ref m38, .ref m39, .ref m40, .long 0])), (m16, .inl (k 0, 5, .inl (fun _ => 0))), (m17, .inl (k 0, 30, .inl (fun _ => 0))), (m18, .inl (k 0, 250, .inl (fun _ => 0))), (m19, .inl (k 0, 40, .inl (fun _ => 0))), (m20, .inl (k 0, 120, .inl (fun _ => 0))), (m21, .inl (k 0, 20, .inl (fun _ => 0))), (m22, .inl (k 0, 600, .inl (fun _ => 0)))] H := hP
  have hD : va_D A [(mo, .inr (12, [.int 0, .ref m1, .ref m2, .ref m3, .ref m4, .ref m5, .int 0, .int 0, .int 0, .int 0, .int 0, .long 0, .int 0, .int 0, .int 0, .int (-1), .ref m16, .ref m17, .ref m18, .ref m19, .ref m20, .ref m21, .ref m22, .ref m23, .int 0, .ref m25, .ref m26, .ref m27, .ref m28, .ref m29, .int 0, .ref m31, .ref m32, .ref m33, .int 0, .int 0, .int 0, .ref m37, .ref m38, .ref m39, .ref m40, .long 0])), (m16, .inl (k 0, 5, .inl (fun _ => 0))), (m17, .inl (k 0, 30, .inl (fun _ => 0))), (m18, .inl (k 0, 250, .inl (fun _ => 0))), (m19, .inl (k 0, 40, .inl (fun _ => 0))), (m20, .inl (k 0, 120, .inl (fun _ => 0))), (m21, .inl (k 0, 20, .inl (fun _ => 0))), (m22, .inl (k 0, 600, .inl (fun _ => 0)))] := hD
  refine lv_aload_n hx hb dX12_town_5 rfl (lv_at hl 0 rfl) ?_
  have hPc := hP.sub (ws' := [(mo, .inr (12, [.int 0, .ref m1, .ref m2, .ref m3, .ref m4, .ref m5, .int 0, .int 0, .int 0, .int 0, .int 0, .long 0, .int 0, .int 0, .int 0, .int (-1), .ref m16, .ref m17, .ref m18, .ref m19, .ref m20, .ref m21, .ref m22, .ref m23, .int 0, .ref m25, .ref m26, .ref m27, .ref m28, .ref m29, .int 0, .ref m31, .ref m32, .ref m33, .int 0, .int 0, .int 0, .ref m37, .ref m38, .ref m39, .ref m40, .long 0])), (m16, .inl (k 0, 5, .inl (fun _ => 0))), (m17, .inl (k 0, 30, .inl (fun _ => 0)))]) [0, 1, 2] rfl
  have hDc := hD.sub (ws' := [(mo, .inr (12, [.int 0, .ref m1, .ref m2, .ref m3, .ref m4, .ref m5, .int 0, .int 0, .int 0, .int 0, .int 0, .long 0, .int 0, .int 0, .int 0, .int (-1), .ref m16, .ref m17, .ref m18, .ref m19, .ref m20, .ref m21, .ref m22, .ref m23, .int 0, .ref m25, .ref m26, .ref m27, .ref m28, .ref m29, .int 0, .ref m31, .ref m32, .ref m33, .int 0, .int 0, .int 0, .ref m37, .ref m38, .ref m39, .ref m40, .long 0])), (m16, .inl (k 0, 5, .inl (fun _ => 0))), (m17, .inl (k 0, 30, .inl (fun _ => 0)))]) [0, 1, 2] (by decide) rfl
  have hFc := va_free (wc := [(mo, .inr (12, [.int 0, .ref m1, .ref m2, .ref m3, .ref m4, .ref m5, .int 0, .int 0, .int 0, .int 0, .int 0, .long 0, .int 0, .int 0, .int 0, .int (-1), .ref m16, .ref m17, .ref m18, .ref m19, .ref m20, .ref m21, .ref m22, .ref m23, .int 0, .ref m25, .ref m26, .ref m27, .ref m28, .ref m29, .int 0, .ref m31, .ref m32, .ref m33, .int 0, .int 0, .int 0, .ref m37, .ref m38, .ref m39, .ref m40, .long 0])), (m16, .inl (k 0, 5, .inl (fun _ => 0))), (m17, .inl (k 0, 30, .inl (fun _ => 0)))]) hD hS hA [0, 1, 2] rfl
  refine va_callv (va_runV (C := RX12) (As := []) (rest := []) ⟨hx, hb, hml, hown, hts⟩ (c_X12_clears l D k mo m1 m2 m3 m4 m5 m16 m17 m18 m19 m20 m21 m22 m23 m25 m26 m27 m28 m29 m31 m32 m33 m37 m38 m39 m40 (fun _ => 0) (fun _ => 0) H.size) (cwV 0 hts (gV tw_6_222 tw_6_224 tw_p_36 tw_1_13 tw_6_225) rfl rfl rfl hdV_X12_clears ⟨Nat.le_of_ble_eq_true rfl, Nat.le_of_ble_eq_true rfl⟩) (cz_V hK hPc hDc hN (ci := 12) (q0 := 0) rfl rfl []) rfl rfl hl.1 rfl (lv_room (Nat.le_of_ble_eq_true rfl)) dX12_town_6 ⟨Nat.le_of_ble_eq_true rfl, Nat.le_of_ble_eq_true rfl⟩) hS (fun q _ h => hFc q h) hFc (fun uZ tZ H1 locs ht hvm hw hB hz1 hk1 hS => ?_)
  obtain ⟨o_2, o_3⟩ := uZ
  obtain ⟨hP1, hK1, hD1⟩ := hB
  rw [ht] at hP1
  obtain ⟨hP, hD⟩ := va_join (wr := [(m18, .inl (k 0, 250, .inl (fun _ => 0))), (m19, .inl (k 0, 40, .inl (fun _ => 0))), (m20, .inl (k 0, 120, .inl (fun _ => 0))), (m21, .inl (k 0, 20, .inl (fun _ => 0))), (m22, .inl (k 0, 600, .inl (fun _ => 0)))]) (w1 := [(mo, .inr (12, [.int 0, .ref m1, .ref m2, .ref m3, .ref m4, .ref m5, .int 0, .int 0, .int 0, .int 0, .int 0, .long 0, .int 0, .int 0, .int 0, .int (-1), .ref m16, .ref m17, .ref m18, .ref m19, .ref m20, .ref m21, .ref m22, .ref m23, .int 0, .ref m25, .ref m26, .ref m27, .ref m28, .ref m29, .int 0, .ref m31, .ref m32, .ref m33, .int 0, .int 0, .int 0, .ref m37, .ref m38, .ref m39, .ref m40, .long 0])), (m16, .inl (k 0, 5, .inl o_2)), (m17, .inl (k 0, 30, .inl o_3))]) hP hD [0, 1, 2] [3, 4, 5, 6, 7] rfl rfl (by decide) (by decide) hk1 hFc hP1 hD1
  clear hK1 hP1 hD1 hPc hDc hFc
  clear hk1 hz1 ht hvm
  have hP : va_P D vwCl [(m18, .inl (k 0, 250, .inl (fun _ => 0))), (m19, .inl (k 0, 40, .inl (fun _ => 0))), (m20, .inl (k 0, 120, .inl (fun _ => 0))), (m21, .inl (k 0, 20, .inl (fun _ => 0))), (m22, .inl (k 0, 600, .inl (fun _ => 0))), (mo, .inr (12, [.int 0, .ref m1, .ref m2, .ref m3, .ref m4, .ref m5, .int 0, .int 0, .int 0, .int 0, .int 0, .long 0, .int 0, .int 0, .int 0, .int (-1), .ref m16, .ref m17, .ref m18, .ref m19, .ref m20, .ref m21, .ref m22, .ref m23, .int 0, .ref m25, .ref m26, .ref m27, .ref m28, .ref m29, .int 0, .ref m31, .ref m32, .ref m33, .int 0, .int 0, .int 0, .ref m37, .ref m38, .ref m39, .ref m40, .long 0])), (m16, .inl (k 0, 5, .inl o_2)), (m17, .inl (k 0, 30, .inl o_3))] H1 := hP
  have hD : va_D A [(m18, .inl (k 0, 250, .inl (fun _ => 0))), (m19, .inl (k 0, 40, .inl (fun _ => 0))), (m20, .inl (k 0, 120, .inl (fun _ => 0))), (m21, .inl (k 0, 20, .inl (fun _ => 0))), (m22, .inl (k 0, 600, .inl (fun _ => 0))), (mo, .inr (12, [.int 0, .ref m1, .ref m2, .ref m3, .ref m4, .ref m5, .int 0, .int 0, .int 0, .int 0, .int 0, .long 0, .int 0, .int 0, .int 0, .int (-1), .ref m16, .ref m17, .ref m18, .ref m19, .ref m20, .ref m21, .ref m22, .ref m23, .int 0, .ref m25, .ref m26, .ref m27, .ref m28, .ref m29, .int 0, .ref m31, .ref m32, .ref m33, .int 0, .int 0, .int 0, .ref m37, .ref m38, .ref m39, .ref m40, .long 0])), (m16, .inl (k 0, 5, .inl o_2)), (m17, .inl (k 0, 30, .inl o_3))] := hD
  generalize H1 = H at hP hS ⊢
  have hw_4 : (∀ j : Nat, (fun _ => 0) j = (0 : Int32)) → (∀ j : Nat, (fun _ => 0) j = (0 : Int32)) → (∀ j : Nat, o_2 j = (0 : Int32)) ∧ ∀ j : Nat, o_3 j = (0 : Int32) := hw
  clear hw
  refine lv_aload_n hx hb dX12_town_9 rfl (lv_at hl 0 rfl) ?_
  have hPc := hP.sub (ws' := [(mo, .inr (12, [.int 0, .ref m1, .ref m2, .ref m3, .ref m4, .ref m5, .int 0, .int 0, .int 0, .int 0, .int 0, .long 0, .int 0, .int 0, .int 0, .int (-1), .ref m16, .ref m17, .ref m18, .ref m19, .ref m20, .ref m21, .ref m22, .ref m23, .int 0, .ref m25, .ref m26, .ref m27, .ref m28, .ref m29, .int 0, .ref m31, .ref m32, .ref m33, .int 0, .int 0, .int 0, .ref m37, .ref m38, .ref m39, .ref m40, .long 0]))]) [5] rfl
  have hDc := hD.sub (ws' := [(mo, .inr (12, [.int 0, .ref m1, .ref m2, .ref m3, .ref m4, .ref m5, .int 0, .int 0, .int 0, .int 0, .int 0, .long 0, .int 0, .int 0, .int 0, .int (-1), .ref m16, .ref m17, .ref m18, .ref m19, .ref m20, .ref m21, .ref m22, .ref m23, .int 0, .ref m25, .ref m26, .ref m27, .ref m28, .ref m29, .int 0, .ref m31, .ref m32, .ref m33, .int 0, .int 0, .int 0, .ref m37, .ref m38, .ref m39, .ref m40, .long 0]))]) [5] (by decide) rfl
  have hFc := va_free (wc := [(mo, .inr (12, [.int 0, .ref m1, .ref m2, .ref m3, .ref m4, .ref m5, .int 0, .int 0, .int 0, .int 0, .int 0, .long 0, .int 0, .int 0, .int 0, .int (-1), .ref m16, .ref m17, .ref m18, .ref m19, .ref m20, .ref m21, .ref m22, .ref m23, .int 0, .ref m25, .ref m26, .ref m27, .ref m28, .ref m29, .int 0, .ref m31, .ref m32, .ref m33, .int 0, .int 0, .int 0, .ref m37, .ref m38, .ref m39, .ref m40, .long 0]))]) hD hS hA [5] rfl
  refine va_callv (va_runV (C := RX12) (As := []) (rest := []) ⟨hx, hb, hml, hown, hts⟩ (c_X12_begins l D k mo m1 m2 m3 m4 m5 m16 m17 m18 m19 m20 m21 m22 m23 m25 m26 m27 m28 m29 m31 m32 m33 m37 m38 m39 m40 H.size) (cwV 0 hts (gV tw_6_230 tw_6_232 tw_p_38 tw_1_13 tw_6_233) rfl rfl rfl hdV_X12_begins ⟨Nat.le_of_ble_eq_true rfl, Nat.le_of_ble_eq_true rfl⟩) (cz_V hK hPc hDc hN (ci := 12) (q0 := 0) rfl rfl []) rfl rfl hl.1 rfl (lv_room (Nat.le_of_ble_eq_true rfl)) dX12_town_10 ⟨Nat.le_of_ble_eq_true rfl, Nat.le_of_ble_eq_true rfl⟩) hS (fun q _ h => hFc q h) hFc (fun uZ tZ H1 locs ht hvm hw hB hz1 hk1 hS => ?_)
  obtain ⟨hP1, hK1, hD1⟩ := hB
  rw [ht] at hP1
  obtain ⟨hP, hD⟩ := va_join (wr := [(m18, .inl (k 0, 250, .inl (fun _ => 0))), (m19, .inl (k 0, 40, .inl (fun _ => 0))), (m20, .inl (k 0, 120, .inl (fun _ => 0))), (m21, .inl (k 0, 20, .inl (fun _ => 0))), (m22, .inl (k 0, 600, .inl (fun _ => 0))), (m16, .inl (k 0, 5, .inl o_2)), (m17, .inl (k 0, 30, .inl o_3))]) (w1 := [(mo, .inr (12, [.int 0, .ref m1, .ref m2, .ref m3, .ref m4, .ref m5, .int 0, .int 0, .int 0, .int 0, .int 0, .long 0, .int 0, .int (-1), .int 0, .int (-1), .ref m16, .ref m17, .ref m18, .ref m19, .ref m20, .ref m21, .ref m22, .ref m23, .int 0, .ref m25, .ref m26, .ref m27, .ref m28, .ref m29, .int 0, .ref m31, .ref m32, .ref m33, .int 0, .int 0, .int 0, .ref m37, .ref m38, .ref m39, .ref m40, .long 0]))]) hP hD [5] [0, 1, 2, 3, 4, 6, 7] rfl rfl (by decide) (by decide) hk1 hFc hP1 hD1
  clear hK1 hP1 hD1 hPc hDc hFc
  clear hk1 hz1 ht hvm
  have hP : va_P D vwCl [(m18, .inl (k 0, 250, .inl (fun _ => 0))), (m19, .inl (k 0, 40, .inl (fun _ => 0))), (m20, .inl (k 0, 120, .inl (fun _ => 0))), (m21, .inl (k 0, 20, .inl (fun _ => 0))), (m22, .inl (k 0, 600, .inl (fun _ => 0))), (m16, .inl (k 0, 5, .inl o_2)), (m17, .inl (k 0, 30, .inl o_3)), (mo, .inr (12, [.int 0, .ref m1, .ref m2, .ref m3, .ref m4, .ref m5, .int 0, .int 0, .int 0, .int 0, .int 0, .long 0, .int 0, .int (-1), .int 0, .int (-1), .ref m16, .ref m17, .ref m18, .ref m19, .ref m20, .ref m21, .ref m22, .ref m23, .int 0, .ref m25, .ref m26, .ref m27, .ref m28, .ref m29, .int 0, .ref m31, .ref m32, .ref m33, .int 0, .int 0, .int 0, .ref m37, .ref m38, .ref m39, .ref m40, .long 0]))] H1 := hP
  have hD : va_D A [(m18, .inl (k 0, 250, .inl (fun _ => 0))), (m19, .inl (k 0, 40, .inl (fun _ => 0))), (m20, .inl (k 0, 120, .inl (fun _ => 0))), (m21, .inl (k 0, 20, .inl (fun _ => 0))), (m22, .inl (k 0, 600, .inl (fun _ => 0))), (m16, .inl (k 0, 5, .inl o_2)), (m17, .inl (k 0, 30, .inl o_3)), (mo, .inr (12, [.int 0, .ref m1, .ref m2, .ref m3, .ref m4, .ref m5, .int 0, .int 0, .int 0, .int 0, .int 0, .long 0, .int 0, .int (-1), .int 0, .int (-1), .ref m16, .ref m17, .ref m18, .ref m19, .ref m20, .ref m21, .ref m22, .ref m23, .int 0, .ref m25, .ref m26, .ref m27, .ref m28, .ref m29, .int 0, .ref m31, .ref m32, .ref m33, .int 0, .int 0, .int 0, .ref m37, .ref m38, .ref m39, .ref m40, .long 0]))] := hD
  generalize H1 = H at hP hS ⊢
  clear hw
  refine lv_aload_n hx hb dX12_town_13 rfl (lv_at hl 0 rfl) ?_
  have hPc := hP.sub (ws' := [(mo, .inr (12, [.int 0, .ref m1, .ref m2, .ref m3, .ref m4, .ref m5, .int 0, .int 0, .int 0, .int 0, .int 0, .long 0, .int 0, .int (-1), .int 0, .int (-1), .ref m16, .ref m17, .ref m18, .ref m19, .ref m20, .ref m21, .ref m22, .ref m23, .int 0, .ref m25, .ref m26, .ref m27, .ref m28, .ref m29, .int 0, .ref m31, .ref m32, .ref m33, .int 0, .int 0, .int 0, .ref m37, .ref m38, .ref m39, .ref m40, .long 0]))]) [7] rfl
  have hDc := hD.sub (ws' := [(mo, .inr (12, [.int 0, .ref m1, .ref m2, .ref m3, .ref m4, .ref m5, .int 0, .int 0, .int 0, .int 0, .int 0, .long 0, .int 0, .int (-1), .int 0, .int (-1), .ref m16, .ref m17, .ref m18, .ref m19, .ref m20, .ref m21, .ref m22, .ref m23, .int 0, .ref m25, .ref m26, .ref m27, .ref m28, .ref m29, .int 0, .ref m31, .ref m32, .ref m33, .int 0, .int 0, .int 0, .ref m37, .ref m38, .ref m39, .ref m40, .long 0]))]) [7] (by decide) rfl
  have hFc := va_free (wc := [(mo, .inr (12, [.int 0, .ref m1, .ref m2, .ref m3, .ref m4, .ref m5, .int 0, .int 0, .int 0, .int 0, .int 0, .long 0, .int 0, .int (-1), .int 0, .int (-1), .ref m16, .ref m17, .ref m18, .ref m19, .ref m20, .ref m21, .ref m22, .ref m23, .int 0, .ref m25, .ref m26, .ref m27, .ref m28, .ref m29, .int 0, .ref m31, .ref m32, .ref m33, .int 0, .int 0, .int 0, .ref m37, .ref m38, .ref m39, .ref m40, .long 0]))]) hD hS hA [7] rfl
  refine va_calli (va_runV (C := RX12) (As := []) (rest := []) ⟨hx, hb, hml, hown, hts⟩ (c_X12_isGood l D k mo m1 m2 m3 m4 m5 m16 m17 m18 m19 m20 m21 m22 m23 m25 m26 m27 m28 m29 m31 m32 m33 m37 m38 m39 m40 H.size) (cwV 0 hts (gV tw_7_7 tw_7_9 tw_p_41 tw_1_13 tw_7_10) rfl rfl rfl hdV_X12_isGood ⟨Nat.le_of_ble_eq_true rfl, Nat.le_of_ble_eq_true rfl⟩) (cz_V hK hPc hDc hN (ci := 12) (q0 := 0) rfl rfl []) rfl rfl hl.1 rfl (lv_room (Nat.le_of_ble_eq_true rfl)) dX12_town_14 ⟨Nat.le_of_ble_eq_true rfl, Nat.le_of_ble_eq_true rfl⟩) hS (fun q _ h => hFc q h) hFc (fun r_7 uZ tZ H1 locs ht hvm hw hB hz1 hk1 hS => ?_)
  obtain ⟨hP1, hK1, hD1⟩ := hB
  rw [ht] at hP1
  obtain ⟨hP, hD⟩ := va_join (wr := [(m18, .inl (k 0, 250, .inl (fun _ => 0))), (m19, .inl (k 0, 40, .inl (fun _ => 0))), (m20, .inl (k 0, 120, .inl (fun _ => 0))), (m21, .inl (k 0, 20, .inl (fun _ => 0))), (m22, .inl (k 0, 600, .inl (fun _ => 0))), (m16, .inl (k 0, 5, .inl o_2)), (m17, .inl (k 0, 30, .inl o_3))]) (w1 := [(mo, .inr (12, [.int 0, .ref m1, .ref m2, .ref m3, .ref m4, .ref m5, .int 0, .int 0, .int 0, .int 0, .int 0, .long 0, .int 0, .int (-1), .int 0, .int (-1), .ref m16, .ref m17, .ref m18, .ref m19, .ref m20, .ref m21, .ref m22, .ref m23, .int 0, .ref m25, .ref m26, .ref m27, .ref m28, .ref m29, .int 0, .ref m31, .ref m32, .ref m33, .int 0, .int 0, .int 0, .ref m37, .ref m38, .ref m39, .ref m40, .long 0]))]) hP hD [7] [0, 1, 2, 3, 4, 5, 6] rfl rfl (by decide) (by decide) hk1 hFc hP1 hD1
  clear hK1 hP1 hD1 hPc hDc hFc
  clear hk1 hz1 ht hvm
  have hP : va_P D vwCl [(m18, .inl (k 0, 250, .inl (fun _ => 0))), (m19, .inl (k 0, 40, .inl (fun _ => 0))), (m20, .inl (k 0, 120, .inl (fun _ => 0))), (m21, .inl (k 0, 20, .inl (fun _ => 0))), (m22, .inl (k 0, 600, .inl (fun _ => 0))), (m16, .inl (k 0, 5, .inl o_2)), (m17, .inl (k 0, 30, .inl o_3)), (mo, .inr (12, [.int 0, .ref m1, .ref m2, .ref m3, .ref m4, .ref m5, .int 0, .int 0, .int 0, .int 0, .int 0, .long 0, .int 0, .int (-1), .int 0, .int (-1), .ref m16, .ref m17, .ref m18, .ref m19, .ref m20, .ref m21, .ref m22, .ref m23, .int 0, .ref m25, .ref m26, .ref m27, .ref m28, .ref m29, .int 0, .ref m31, .ref m32, .ref m33, .int 0, .int 0, .int 0, .ref m37, .ref m38, .ref m39, .ref m40, .long 0]))] H1 := hP
  have hD : va_D A [(m18, .inl (k 0, 250, .inl (fun _ => 0))), (m19, .inl (k 0, 40, .inl (fun _ => 0))), (m20, .inl (k 0, 120, .inl (fun _ => 0))), (m21, .inl (k 0, 20, .inl (fun _ => 0))), (m22, .inl (k 0, 600, .inl (fun _ => 0))), (m16, .inl (k 0, 5, .inl o_2)), (m17, .inl (k 0, 30, .inl o_3)), (mo, .inr (12, [.int 0, .ref m1, .ref m2, .ref m3, .ref m4, .ref m5, .int 0, .int 0, .int 0, .int 0, .int 0, .long 0, .int 0, .int (-1), .int 0, .int (-1), .ref m16, .ref m17, .ref m18, .ref m19, .ref m20, .ref m21, .ref m22, .ref m23, .int 0, .ref m25, .ref m26, .ref m27, .ref m28, .ref m29, .int 0, .ref m31, .ref m32, .ref m33, .int 0, .int 0, .int 0, .ref m37, .ref m38, .ref m39, .ref m40, .long 0]))] := hD
  generalize H1 = H at hP hS ⊢
  obtain rfl : r_7 = 1 := hw
  refine lv_if_eq (tgt := 89) hx hb dX12_town_17 (by decide) (fun c9 => absurd c9 (by decide)) (fun _ => ?_)
  refine lv_aload_n hx hb dX12_town_20 rfl (lv_at hl 0 rfl) ?_
  refine va_get (D := D) (ci := 12) (v := .int 0) (C := RX12) (T := TX12) (N := 42) hx hb hts iT_X12 hown hK hP 7 rfl rfl 8 (by decide) (hts _ tw_6_61) (fun _ h9 => h9) rfl dX12_town_21 ?_
  refine lv_if_eq (tgt := 89) hx hb dX12_town_24 (by decide) (fun _ => ?_) (fun c9 => absurd c9 (by decide))
  refine lv_aload_n hx hb dX12_town_89 rfl (lv_at hl 0 rfl) ?_
  have hPc := hP.sub (ws' := [(mo, .inr (12, [.int 0, .ref m1, .ref m2, .ref m3, .ref m4, .ref m5, .int 0, .int 0, .int 0, .int 0, .int 0, .long 0, .int 0, .int (-1), .int 0, .int (-1), .ref m16, .ref m17, .ref m18, .ref m19, .ref m20, .ref m21, .ref m22, .ref m23, .int 0, .ref m25, .ref m26, .ref m27, .ref m28, .ref m29, .int 0, .ref m31, .ref m32, .ref m33, .int 0, .int 0, .int 0, .ref m37, .ref m38, .ref m39, .ref m40, .long 0]))]) [7] rfl
  have hDc := hD.sub (ws' := [(mo, .inr (12, [.int 0, .ref m1, .ref m2, .ref m3, .ref m4, .ref m5, .int 0, .int 0, .int 0, .int 0, .int 0, .long 0, .int 0, .int (-1), .int 0, .int (-1), .ref m16, .ref m17, .ref m18, .ref m19, .ref m20, .ref m21, .ref m22, .ref m23, .int 0, .ref m25, .ref m26, .ref m27, .ref m28, .ref m29, .int 0, .ref m31, .ref m32, .ref m33, .int 0, .int 0, .int 0, .ref m37, .ref m38, .ref m39, .ref m40, .long 0]))]) [7] (by decide) rfl
  have hFc := va_free (wc := [(mo, .inr (12, [.int 0, .ref m1, .ref m2, .ref m3, .ref m4, .ref m5, .int 0, .int 0, .int 0, .int 0, .int 0, .long 0, .int 0, .int (-1), .int 0, .int (-1), .ref m16, .ref m17, .ref m18, .ref m19, .ref m20, .ref m21, .ref m22, .ref m23, .int 0, .ref m25, .ref m26, .ref m27, .ref m28, .ref m29, .int 0, .ref m31, .ref m32, .ref m33, .int 0, .int 0, .int 0, .ref m37, .ref m38, .ref m39, .ref m40, .long 0]))]) hD hS hA [7] rfl
  refine va_callv (va_runV (C := RX12) (As := []) (rest := []) ⟨hx, hb, hml, hown, hts⟩ (c_X12_isOver l D k mo m1 m2 m3 m4 m5 m16 m17 m18 m19 m20 m21 m22 m23 m25 m26 m27 m28 m29 m31 m32 m33 m37 m38 m39 m40 H.size) (cwV 0 hts (gV tw_7_83 tw_7_85 tw_p_56 tw_1_13 tw_7_86) rfl rfl rfl hdV_X12_isOver ⟨Nat.le_of_ble_eq_true rfl, Nat.le_of_ble_eq_true rfl⟩) (cz_V hK hPc hDc hN (ci := 12) (q0 := 0) rfl rfl []) rfl rfl hl.1 rfl (lv_room (Nat.le_of_ble_eq_true rfl)) dX12_town_90 ⟨Nat.le_of_ble_eq_true rfl, Nat.le_of_ble_eq_true rfl⟩) hS (fun q _ h => hFc q h) hFc (fun uZ tZ H1 locs ht hvm hw hB hz1 hk1 hS => ?_)
  obtain ⟨hP1, hK1, hD1⟩ := hB
  rw [ht] at hP1
  obtain ⟨hP, hD⟩ := va_join (wr := [(m18, .inl (k 0, 250, .inl (fun _ => 0))), (m19, .inl (k 0, 40, .inl (fun _ => 0))), (m20, .inl (k 0, 120, .inl (fun _ => 0))), (m21, .inl (k 0, 20, .inl (fun _ => 0))), (m22, .inl (k 0, 600, .inl (fun _ => 0))), (m16, .inl (k 0, 5, .inl o_2)), (m17, .inl (k 0, 30, .inl o_3))]) (w1 := [(mo, .inr (12, [.int 0, .ref m1, .ref m2, .ref m3, .ref m4, .ref m5, .int 0, .int 0, .int 0, .int 0, .int 0, .long 0, .int 0, .int (-1), .int 0, .int (-1), .ref m16, .ref m17, .ref m18, .ref m19, .ref m20, .ref m21, .ref m22, .ref m23, .int 0, .ref m25, .ref m26, .ref m27, .ref m28, .ref m29, .int 0, .ref m31, .ref m32, .ref m33, .int 0, .int 0, .int 0, .ref m37, .ref m38, .ref m39, .ref m40, .long 0]))]) hP hD [7] [0, 1, 2, 3, 4, 5, 6] rfl rfl (by decide) (by decide) hk1 hFc hP1 hD1
  clear hK1 hP1 hD1 hPc hDc hFc
  clear hk1 hz1 ht hvm
  have hP : va_P D vwCl [(m18, .inl (k 0, 250, .inl (fun _ => 0))), (m19, .inl (k 0, 40, .inl (fun _ => 0))), (m20, .inl (k 0, 120, .inl (fun _ => 0))), (m21, .inl (k 0, 20, .inl (fun _ => 0))), (m22, .inl (k 0, 600, .inl (fun _ => 0))), (m16, .inl (k 0, 5, .inl o_2)), (m17, .inl (k 0, 30, .inl o_3)), (mo, .inr (12, [.int 0, .ref m1, .ref m2, .ref m3, .ref m4, .ref m5, .int 0, .int 0, .int 0, .int 0, .int 0, .long 0, .int 0, .int (-1), .int 0, .int (-1), .ref m16, .ref m17, .ref m18, .ref m19, .ref m20, .ref m21, .ref m22, .ref m23, .int 0, .ref m25, .ref m26, .ref m27, .ref m28, .ref m29, .int 0, .ref m31, .ref m32, .ref m33, .int 0, .int 0, .int 0, .ref m37, .ref m38, .ref m39, .ref m40, .long 0]))] H1 := hP
  have hD : va_D A [(m18, .inl (k 0, 250, .inl (fun _ => 0))), (m19, .inl (k 0, 40, .inl (fun _ => 0))), (m20, .inl (k 0, 120, .inl (fun _ => 0))), (m21, .inl (k 0, 20, .inl (fun _ => 0))), (m22, .inl (k 0, 600, .inl (fun _ => 0))), (m16, .inl (k 0, 5, .inl o_2)), (m17, .inl (k 0, 30, .inl o_3)), (mo, .inr (12, [.int 0, .ref m1, .ref m2, .ref m3, .ref m4, .ref m5, .int 0, .int 0, .int 0, .int 0, .int 0, .long 0, .int 0, .int (-1), .int 0, .int (-1), .ref m16, .ref m17, .ref m18, .ref m19, .ref m20, .ref m21, .ref m22, .ref m23, .int 0, .ref m25, .ref m26, .ref m27, .ref m28, .ref m29, .int 0, .ref m31, .ref m32, .ref m33, .int 0, .int 0, .int 0, .ref m37, .ref m38, .ref m39, .ref m40, .long 0]))] := hD
  generalize H1 = H at hP hS ⊢
  clear hw
  refine lv_aload_n hx hb dX12_town_93 rfl (lv_at hl 0 rfl) ?_
  refine va_get (D := D) (ci := 12) (v := .int 0) (C := RX12) (T := TX12) (N := 42) hx hb hts iT_X12 hown hK hP 7 rfl rfl 12 (by decide) (hts _ tw_6_65) (fun _ h9 => h9) rfl dX12_town_94 ?_
  refine lv_if_eq (tgt := 103) hx hb dX12_town_97 (by decide) (fun _ => ?_) (fun c9 => absurd c9 (by decide))
  refine lv_aload_n hx hb dX12_town_103 rfl (lv_at hl 0 rfl) ?_
  refine lv_iconst (v := 4) hx hb dX12_town_104 (by decide) ?_
  refine lv_iconst (v := 0) hx hb dX12_town_105 (by decide) ?_
  have hPc := hP.sub (ws' := [(mo, .inr (12, [.int 0, .ref m1, .ref m2, .ref m3, .ref m4, .ref m5, .int 0, .int 0, .int 0, .int 0, .int 0, .long 0, .int 0, .int (-1), .int 0, .int (-1), .ref m16, .ref m17, .ref m18, .ref m19, .ref m20, .ref m21, .ref m22, .ref m23, .int 0, .ref m25, .ref m26, .ref m27, .ref m28, .ref m29, .int 0, .ref m31, .ref m32, .ref m33, .int 0, .int 0, .int 0, .ref m37, .ref m38, .ref m39, .ref m40, .long 0])), (m16, .inl (k 0, 5, .inl o_2)), (m17, .inl (k 0, 30, .inl o_3)), (m18, .inl (k 0, 250, .inl (fun _ => 0))), (m19, .inl (k 0, 40, .inl (fun _ => 0))), (m20, .inl (k 0, 120, .inl (fun _ => 0))), (m21, .inl (k 0, 20, .inl (fun _ => 0))), (m22, .inl (k 0, 600, .inl (fun _ => 0)))]) [7, 5, 6, 0, 1, 2, 3, 4] rfl
  have hDc := hD.sub (ws' := [(mo, .inr (12, [.int 0, .ref m1, .ref m2, .ref m3, .ref m4, .ref m5, .int 0, .int 0, .int 0, .int 0, .int 0, .long 0, .int 0, .int (-1), .int 0, .int (-1), .ref m16, .ref m17, .ref m18, .ref m19, .ref m20, .ref m21, .ref m22, .ref m23, .int 0, .ref m25, .ref m26, .ref m27, .ref m28, .ref m29, .int 0, .ref m31, .ref m32, .ref m33, .int 0, .int 0, .int 0, .ref m37, .ref m38, .ref m39, .ref m40, .long 0])), (m16, .inl (k 0, 5, .inl o_2)), (m17, .inl (k 0, 30, .inl o_3)), (m18, .inl (k 0, 250, .inl (fun _ => 0))), (m19, .inl (k 0, 40, .inl (fun _ => 0))), (m20, .inl (k 0, 120, .inl (fun _ => 0))), (m21, .inl (k 0, 20, .inl (fun _ => 0))), (m22, .inl (k 0, 600, .inl (fun _ => 0)))]) [7, 5, 6, 0, 1, 2, 3, 4] (by decide) rfl
  have hFc := va_free (wc := [(mo, .inr (12, [.int 0, .ref m1, .ref m2, .ref m3, .ref m4, .ref m5, .int 0, .int 0, .int 0, .int 0, .int 0, .long 0, .int 0, .int (-1), .int 0, .int (-1), .ref m16, .ref m17, .ref m18, .ref m19, .ref m20, .ref m21, .ref m22, .ref m23, .int 0, .ref m25, .ref m26, .ref m27, .ref m28, .ref m29, .int 0, .ref m31, .ref m32, .ref m33, .int 0, .int 0, .int 0, .ref m37, .ref m38, .ref m39, .ref m40, .long 0])), (m16, .inl (k 0, 5, .inl o_2)), (m17, .inl (k 0, 30, .inl o_3)), (m18, .inl (k 0, 250, .inl (fun _ => 0))), (m19, .inl (k 0, 40, .inl (fun _ => 0))), (m20, .inl (k 0, 120, .inl (fun _ => 0))), (m21, .inl (k 0, 20, .inl (fun _ => 0))), (m22, .inl (k 0, 600, .inl (fun _ => 0)))]) hD hS hA [7, 5, 6, 0, 1, 2, 3, 4] rfl
  refine va_callv (va_runV (C := RX12) (As := [.int 4, .int 0]) (rest := []) ⟨hx, hb, hml, hown, hts⟩ (c_X12_copyTown_4_0 l D k mo m1 m2 m3 m4 m5 m16 m17 m18 m19 m20 m21 m22 m23 m25 m26 m27 m28 m29 m31 m32 m33 m37 m38 m39 m40 o_2 o_3 (fun _ => 0) (fun _ => 0) (fun _ => 0) (fun _ => 0) (fun _ => 0) H.size) (cwV 2 hts (gV tw_7_87 tw_7_89 tw_p_57 tw_1_13 tw_7_90) rfl rfl rfl hdV_X12_copyTown ⟨Nat.le_of_ble_eq_true rfl, Nat.le_of_ble_eq_true rfl⟩) (cz_V hK hPc hDc hN (ci := 12) (q0 := 0) rfl rfl [.int 4, .int 0]) rfl rfl hl.1 rfl (lv_room (Nat.le_of_ble_eq_true rfl)) dX12_town_106 ⟨Nat.le_of_ble_eq_true rfl, Nat.le_of_ble_eq_true rfl⟩) hS (fun q _ h => hFc q h) hFc (fun uZ tZ H1 locs ht hvm hw hB hz1 hk1 hS => ?_)
  obtain ⟨o_11, o_12, o_13, o_14, o_15, o_16, o_17⟩ := uZ
  obtain ⟨hP1, hK1, hD1⟩ := hB
  rw [ht] at hP1
  obtain ⟨hP, hD⟩ := va_join (wr := []) (w1 := [(mo, .inr (12, [.int 0, .ref m1, .ref m2, .ref m3, .ref m4, .ref m5, .int 0, .int 0, .int 0, .int 0, .int 0, .long 0, .int 0, .int (-1), .int 0, .int (-1), .ref m16, .ref m17, .ref m18, .ref m19, .ref m20, .ref m21, .ref m22, .ref m23, .int 0, .ref m25, .ref m26, .ref m27, .ref m28, .ref m29, .int 0, .ref m31, .ref m32, .ref m33, .int 0, .int 0, .int 0, .ref m37, .ref m38, .ref m39, .ref m40, .long 0])), (m16, .inl (k 0, 5, .inl o_11)), (m17, .inl (k 0, 30, .inl o_12)), (m18, .inl (k 0, 250, .inl o_13)), (m19, .inl (k 0, 40, .inl o_14)), (m20, .inl (k 0, 120, .inl o_15)), (m21, .inl (k 0, 20, .inl o_16)), (m22, .inl (k 0, 600, .inl o_17))]) hP hD [7, 5, 6, 0, 1, 2, 3, 4] [] rfl rfl (by decide) (by decide) hk1 hFc hP1 hD1
  clear hK1 hP1 hD1 hPc hDc hFc
  clear hk1 hz1 ht hvm
  have hP : va_P D vwCl [(mo, .inr (12, [.int 0, .ref m1, .ref m2, .ref m3, .ref m4, .ref m5, .int 0, .int 0, .int 0, .int 0, .int 0, .long 0, .int 0, .int (-1), .int 0, .int (-1), .ref m16, .ref m17, .ref m18, .ref m19, .ref m20, .ref m21, .ref m22, .ref m23, .int 0, .ref m25, .ref m26, .ref m27, .ref m28, .ref m29, .int 0, .ref m31, .ref m32, .ref m33, .int 0, .int 0, .int 0, .ref m37, .ref m38, .ref m39, .ref m40, .long 0])), (m16, .inl (k 0, 5, .inl o_11)), (m17, .inl (k 0, 30, .inl o_12)), (m18, .inl (k 0, 250, .inl o_13)), (m19, .inl (k 0, 40, .inl o_14)), (m20, .inl (k 0, 120, .inl o_15)), (m21, .inl (k 0, 20, .inl o_16)), (m22, .inl (k 0, 600, .inl o_17))] H1 := hP
  have hD : va_D A [(mo, .inr (12, [.int 0, .ref m1, .ref m2, .ref m3, .ref m4, .ref m5, .int 0, .int 0, .int 0, .int 0, .int 0, .long 0, .int 0, .int (-1), .int 0, .int (-1), .ref m16, .ref m17, .ref m18, .ref m19, .ref m20, .ref m21, .ref m22, .ref m23, .int 0, .ref m25, .ref m26, .ref m27, .ref m28, .ref m29, .int 0, .ref m31, .ref m32, .ref m33, .int 0, .int 0, .int 0, .ref m37, .ref m38, .ref m39, .ref m40, .long 0])), (m16, .inl (k 0, 5, .inl o_11)), (m17, .inl (k 0, 30, .inl o_12)), (m18, .inl (k 0, 250, .inl o_13)), (m19, .inl (k 0, 40, .inl o_14)), (m20, .inl (k 0, 120, .inl o_15)), (m21, .inl (k 0, 20, .inl o_16)), (m22, .inl (k 0, 600, .inl o_17))] := hD
  generalize H1 = H at hP hS ⊢
  have hw_18 : (∀ j : Nat, o_2 j = (0 : Int32)) → ∀ j : Nat, o_11 j = (0 : Int32) := hw
  clear hw
  refine lv_aload_n hx hb dX12_town_109 rfl (lv_at hl 0 rfl) ?_
  refine va_get (D := D) (ci := 12) (v := .ref m16) (C := RX12) (T := TX12) (N := 42) hx hb hts iT_X12 hown hK hP 0 rfl rfl 16 (by decide) (hts _ tw_6_69) (fun _ h9 => h9) rfl dX12_town_110 ?_
  refine lv_iconst (v := 0) hx hb dX12_town_113 (by decide) ?_
  refine va_iald hx hb hK hP 1 0 rfl rfl (z_in (by decide) (by decide)) dX12_town_114 ?_
  refine lv_topi (fun x_19 ex_19 => ?_)
  obtain rfl : x_19 = 0 := ex_19.trans ((fun j (_ : 0 = 0) => hw_18 (hw_4 (fun _ => rfl) (fun _ => rfl)).1 j) _ (by decide))
  have hP9 := hP.sub (ws' := []) [] rfl
  have hD9 := hD.sub (ws' := []) [] (by decide) rfl
  exact W.iret (v := 0) hx hb hr (fun tZ ht hW => ⟨⟨0, (), rfl, rfl, by rw [ht]; exact hP9, va_K.moved hW.alike hK, hD9⟩, hS.F ht⟩) hS.2.2 dX12_town_115
