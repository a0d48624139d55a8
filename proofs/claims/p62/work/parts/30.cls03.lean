set_option maxHeartbeats 4000000 in
set_option maxRecDepth 100000 in
theorem c_X7_weighClerk (l : Launch) (D : va_G) (k : Nat → ClassId) (ob : Nat) (tn : Nat) (obv0 : Int32) (obv1 : Int32) (obc : Nat) (ob_3 : Nat) (obv4 : Int32) (ob_5 : Nat) (ob_6 : Nat) (obc_0 : Nat) (obcv1 : Int32) (obcv2 : Int32) (obcg0 : Nat → Int32) (obg5 : Nat → Int32) (obg6 : Nat → Int32) (tnv0 : Int32) (tnv1 : Int32) (tnv2 : Int32) (tn_3 : Nat) (tn_4 : Nat) (tn_5 : Nat) (tn_6 : Nat) (tnv7 : Int32) (tnv8 : Int32) (tn_9 : Nat) (tn_10 : Nat) (tnv11 : Int32) (tn_12 : Nat) (tn_13 : Nat) (tn_14 : Nat) (tn_15 : Nat) (tnv16 : Int32) (tn_17 : Nat) (tn_18 : Nat) (tnt : Nat) (tng3 : Nat → Int32) (tng4 : Nat → Int32) (tng5 : Nat → Int32) (tng9 : Nat → Int32) (tng10 : Nat → Int32) (tng12 : Nat → Int32) (tng13 : Nat → Int32) (tng14 : Nat → Int32) (sz : Nat) (h_obv4 : 0 ≤ obv4.toInt ∧ obv4.toInt ≤ 1024) (hp_obcg0_0 : PR 8 1 0 0 1000000 obcg0) (h_tnv0 : 0 ≤ tnv0.toInt ∧ tnv0.toInt ≤ 8) (h_tnv2 : 0 ≤ tnv2.toInt ∧ tnv2.toInt ≤ 10) (h_tnv8 : 0 ≤ tnv8.toInt ∧ tnv8.toInt ≤ 4) (h_tnv11 : 0 ≤ tnv11.toInt ∧ tnv11.toInt ≤ 6) (h_tnv16 : 0 ≤ tnv16.toInt ∧ tnv16.toInt ≤ 2) (hp_tng3_0 : PR 10 1 0 0 7 tng3) (hp_tng4_0 : PR 10 1 0 0 7 tng4) (hp_tng5_0 : PR 10 1 0 0 60 tng5) (hp_tng9_0 : PR 4 1 0 0 7 tng9) (hp_tng10_0 : PR 4 1 0 0 99 tng10) (hp_tng12_0 : PR 6 1 0 0 7 tng12) (hp_tng13_0 : PR 6 1 0 0 999 tng13) (hp_tng14_0 : PR 6 1 0 0 999 tng14) : Met l yX7_weighClerk (ww yX7_weighClerk cX7_weighClerk 5 none) ({ frames := 5, cells := 0, slots := 0, locals := 112 }) (Pre0 D k [(ob, .inr (7, [.int obv0, .int obv1, .ref obc, .ref ob_3, .int obv4, .ref ob_5, .ref ob_6])), (obc, .inr (1, [.ref obc_0, .int obcv1, .int obcv2])), (obc_0, .inl (k 0, 8, .inl obcg0)), (ob_5, .inl (k 0, 40, .inl obg5)), (ob_6, .inl (k 0, 4, .inl obg6)), (tn, .inr (10, [.int tnv0, .int tnv1, .int tnv2, .ref tn_3, .ref tn_4, .ref tn_5, .ref tn_6, .int tnv7, .int tnv8, .ref tn_9, .ref tn_10, .int tnv11, .ref tn_12, .ref tn_13, .ref tn_14, .ref tn_15, .int tnv16, .ref tn_17, .ref tn_18, .ref tnt])), (tn_3, .inl (k 0, 10, .inl tng3)), (tn_4, .inl (k 0, 10, .inl tng4)), (tn_5, .inl (k 0, 10, .inl tng5)), (tn_9, .inl (k 0, 4, .inl tng9)), (tn_10, .inl (k 0, 4, .inl tng10)), (tn_12, .inl (k 0, 6, .inl tng12)), (tn_13, .inl (k 0, 6, .inl tng13)), (tn_14, .inl (k 0, 6, .inl tng14))] sz [.ref ob, .ref tn]) (va_Qv (fun (u : Int32 × Int32 × (Nat → Int32) × (Nat → Int32) × (Nat → Int32)) => match u with | (obcv1z, obcv2z, obcg0z, obg5z, obg6z) => (PR 8 1 0 0 1000000 obcg0z)) (fun (u : Int32 × Int32 × (Nat → Int32) × (Nat → Int32) × (Nat → Int32)) tZ => match u with | (obcv1z, obcv2z, obcg0z, obg5z, obg6z) => Bw D k (va_A [(ob, .inr (7, [.int obv0, .int obv1, .ref obc, .ref ob_3, .int obv4, .ref ob_5, .ref ob_6])), (obc, .inr (1, [.ref obc_0, .int obcv1, .int obcv2])), (obc_0, .inl (k 0, 8, .inl obcg0)), (ob_5, .inl (k 0, 40, .inl obg5)), (ob_6, .inl (k 0, 4, .inl obg6)), (tn, .inr (10, [.int tnv0, .int tnv1, .int tnv2, .ref tn_3, .ref tn_4, .ref tn_5, .ref tn_6, .int tnv7, .int tnv8, .ref tn_9, .ref tn_10, .int tnv11, .ref tn_12, .ref tn_13, .ref tn_14, .ref tn_15, .int tnv16, .ref tn_17, .ref tn_18, .ref tnt])), (tn_3, .inl (k 0, 10, .inl tng3)), (tn_4, .inl (k 0, 10, .inl tng4)), (tn_5, .inl (k 0, 10, .inl tng5)), (tn_9, .inl (k 0, 4, .inl tng9)), (tn_10, .inl (k 0, 4, .inl tng10)), (tn_12, .inl (k 0, 6, .inl tng12)), (tn_13, .inl (k 0, 6, .inl tng13)), (tn_14, .inl (k 0, 6, .inl tng14))] sz) [(ob, .inr (7, [.int obv0, .int obv1, .ref obc, .ref ob_3, .int obv4, .ref ob_5, .ref ob_6])), (obc, .inr (1, [.ref obc_0, .int obcv1z, .int obcv2z])), (obc_0, .inl (k 0, 8, .inl obcg0z)), (ob_5, .inl (k 0, 40, .inl obg5z)), (ob_6, .inl (k 0, 4, .inl obg6z)), (tn, .inr (10, [.int tnv0, .int tnv1, .int tnv2, .ref tn_3, .ref tn_4, .ref tn_5, .ref tn_6, .int tnv7, .int tnv8, .ref tn_9, .ref tn_10, .int tnv11, .ref tn_12, .ref tn_13, .ref tn_14, .ref tn_15, .int tnv16, .ref tn_17, .ref tn_18, .ref tnt])), (tn_3, .inl (k 0, 10, .inl tng3)), (tn_4, .inl (k 0, 10, .inl tng4)), (tn_5, .inl (k 0, 10, .inl tng5)), (tn_9, .inl (k 0, 4, .inl tng9)), (tn_10, .inl (k 0, 4, .inl tng10)), (tn_12, .inl (k 0, 6, .inl tng12)), (tn_13, .inl (k 0, 6, .inl tng13)), (tn_14, .inl (k 0, 6, .inl tng14))] tZ) (va_A [(ob, .inr (7, [.int obv0, .int obv1, .ref obc, .ref ob_3, .int obv4, .ref ob_5, .ref ob_6])), (obc, .inr (1, [.ref obc_0, .int obcv1, .int obcv2])), (obc_0, .inl (k 0, 8, .inl obcg0)), (ob_5, .inl (k 0, 40, .inl obg5)), (ob_6, .inl (k 0, 4, .inl obg6)), (tn, .inr (10, [.int tnv0, .int tnv1, .int tnv2, .ref tn_3, .ref tn_4, .ref tn_5, .ref tn_6, .int tnv7, .int tnv8, .ref tn_9, .ref tn_10, .int tnv11, .ref tn_12, .ref tn_13, .ref tn_14, .ref tn_15, .int tnv16, .ref tn_17, .ref tn_18, .ref tnt])), (tn_3, .inl (k 0, 10, .inl tng3)), (tn_4, .inl (k 0, 10, .inl tng4)), (tn_5, .inl (k 0, 10, .inl tng5)), (tn_9, .inl (k 0, 4, .inl tng9)), (tn_10, .inl (k 0, 4, .inl tng10)), (tn_12, .inl (k 0, 6, .inl tng12)), (tn_13, .inl (k 0, 6, .inl tng13)), (tn_14, .inl (k 0, 6, .inl tng14))] sz)) 0 0 (va_A [(ob, .inr (7, [.int obv0, .int obv1, .ref obc, .ref ob_3, .int obv4, .ref ob_5, .ref ob_6])), (obc, .inr (1, [.ref obc_0, .int obcv1, .int obcv2])), (obc_0, .inl (k 0, 8, .inl obcg0)), (ob_5, .inl (k 0, 40, .inl obg5)), (ob_6, .inl (k 0, 4, .inl obg6)), (tn, .inr (10, [.int tnv0, .int tnv1, .int tnv2, .ref tn_3, .ref tn_4, .ref tn_5, .ref tn_6, .int tnv7, .int tnv8, .ref tn_9, .ref tn_10, .int tnv11, .ref tn_12, .ref tn_13, .ref tn_14, .ref tn_15, .int tnv16, .ref tn_17, .ref tn_18, .ref tnt])), (tn_3, .inl (k 0, 10, .inl tng3)), (tn_4, .inl (k 0, 10, .inl tng4)), (tn_5, .inl (k 0, 10, .inl tng5)), (tn_9, .inl (k 0, 4, .inl tng9)), (tn_10, .inl (k 0, 4, .inl tng10)), (tn_12, .inl (k 0, 6, .inl tng12)), (tn_13, .inl (k 0, 6, .inl tng13)), (tn_14, .inl (k 0, 6, .inl tng14))] sz) := by
  refine Met.ofW (cc := cX7_weighClerk) (maxL := 5) (ret := none) (by decide +kernel) rfl ?_
  intro p e s m args below meth c s₁ B hml hv
  obtain ⟨rfl, hsz, hP, hK, hD0, hN⟩ := hv
  have hx := B.exec
  have hb := B.bytes
  have hr := B.returns
  have hts : ∀ w ∈ TT, w.before _ s = true := fun w h => atoms_spec (ws := ww yX7_weighClerk cX7_weighClerk 5 none) B.pre w (List.mem_cons_of_mem _ h)
  have hown : s.vm.findClass RX7 = some m.cls := findClass_of_methodNamed B.named
  have hlocks := B.notSynchronized
  subst hsz
  have hD := hD0.self (sz := s.heap.size)
  generalize hAe : va_A [(ob, .inr (7, [.int obv0, .int obv1, .ref obc, .ref ob_3, .int obv4, .ref ob_5, .ref ob_6])), (obc, .inr (1, [.ref obc_0, .int obcv1, .int obcv2])), (obc_0, .inl (k 0, 8, .inl obcg0)), (ob_5, .inl (k 0, 40, .inl obg5)), (ob_6, .inl (k 0, 4, .inl obg6)), (tn, .inr (10, [.int tnv0, .int tnv1, .int tnv2, .ref tn_3, .ref tn_4, .ref tn_5, .ref tn_6, .int tnv7, .int tnv8, .ref tn_9, .ref tn_10, .int tnv11, .ref tn_12, .ref tn_13, .ref tn_14, .ref tn_15, .int tnv16, .ref tn_17, .ref tn_18, .ref tnt])), (tn_3, .inl (k 0, 10, .inl tng3)), (tn_4, .inl (k 0, 10, .inl tng4)), (tn_5, .inl (k 0, 10, .inl tng5)), (tn_9, .inl (k 0, 4, .inl tng9)), (tn_10, .inl (k 0, 4, .inl tng10)), (tn_12, .inl (k 0, 6, .inl tng12)), (tn_13, .inl (k 0, 6, .inl tng13)), (tn_14, .inl (k 0, 6, .inl tng14))] s.heap.size = A at hD ⊢
  have hA : ∀ q : Nat, s.heap.size ≤ q → A q := fun q h => by rw [← hAe]; exact Or.inr h
  have hS : va_S A s.heap s.heap [] := va_S.rf
  have hl := lv_entry ([.ref ob, .ref tn]) (n := 5) (Nat.le_of_ble_eq_true rfl)
  rw [lg_entry_eq]
  generalize (lg_sl ([.ref ob, .ref tn]) ++ List.replicate (5 - (lg_sl ([.ref ob, .ref tn])).length) Slot.unset).toArray = ls at hl ⊢
  have hl : lv_has ls 5 [(0, .ref ob), (1, .ref tn)] := hl
  refine lv_iconst (v := 0) hx hb dX7_weighClerk_0 (by decide) ?_
  refine lv_istore_n (lv' := [(2, .int 0), (0, .ref ob), (1, .ref tn)]) hx hb dX7_weighClerk_1 rfl hl (by decide) rfl (fun ls hl => ?_)
  refine loop_r (Wg := fun H locs ls => W p l e _ s m _ below meth c H locs _ _ _ (F0 m 2 ls [])) (fun n9 H locs ls => ∃ (L2l2 : Int32) (L2f1x1 : Int32) (L2f1x2 : Int32) (L2a2 : Nat → Int32) (L2a3 : Nat → Int32) (L2a4 : Nat → Int32), n9 = (4 - L2l2.toInt).toNat ∧ (0 ≤ L2l2.toInt ∧ L2l2.toInt ≤ 4) ∧ (PR 8 1 0 0 1000000 L2a2) ∧ va_P D vwCl [(ob, .inr (7, [.int obv0, .int obv1, .ref obc, .ref ob_3, .int obv4, .ref ob_5, .ref ob_6])), (obc, .inr (1, [.ref obc_0, .int L2f1x1, .int L2f1x2])), (obc_0, .inl (k 0, 8, .inl L2a2)), (ob_5, .inl (k 0, 40, .inl L2a3)), (ob_6, .inl (k 0, 4, .inl L2a4)), (tn, .inr (10, [.int tnv0, .int tnv1, .int tnv2, .ref tn_3, .ref tn_4, .ref tn_5, .ref tn_6, .int tnv7, .int tnv8, .ref tn_9, .ref tn_10, .int tnv11, .ref tn_12, .ref tn_13, .ref tn_14, .ref tn_15, .int tnv16, .ref tn_17, .ref tn_18, .ref tnt])), (tn_3, .inl (k 0, 10, .inl tng3)), (tn_4, .inl (k 0, 10, .inl tng4)), (tn_5, .inl (k 0, 10, .inl tng5)), (tn_9, .inl (k 0, 4, .inl tng9)), (tn_10, .inl (k 0, 4, .inl tng10)), (tn_12, .inl (k 0, 6, .inl tng12)), (tn_13, .inl (k 0, 6, .inl tng13)), (tn_14, .inl (k 0, 6, .inl tng14))] H ∧ va_D A [(ob, .inr (7, [.int obv0, .int obv1, .ref obc, .ref ob_3, .int obv4, .ref ob_5, .ref ob_6])), (obc, .inr (1, [.ref obc_0, .int L2f1x1, .int L2f1x2])), (obc_0, .inl (k 0, 8, .inl L2a2)), (ob_5, .inl (k 0, 40, .inl L2a3)), (ob_6, .inl (k 0, 4, .inl L2a4)), (tn, .inr (10, [.int tnv0, .int tnv1, .int tnv2, .ref tn_3, .ref tn_4, .ref tn_5, .ref tn_6, .int tnv7, .int tnv8, .ref tn_9, .ref tn_10, .int tnv11, .ref tn_12, .ref tn_13, .ref tn_14, .ref tn_15, .int tnv16, .ref tn_17, .ref tn_18, .ref tnt])), (tn_3, .inl (k 0, 10, .inl tng3)), (tn_4, .inl (k 0, 10, .inl tng4)), (tn_5, .inl (k 0, 10, .inl tng5)), (tn_9, .inl (k 0, 4, .inl tng9)), (tn_10, .inl (k 0, 4, .inl tng10)), (tn_12, .inl (k 0, 6, .inl tng12)), (tn_13, .inl (k 0, 6, .inl tng13)), (tn_14, .inl (k 0, 6, .inl tng14))] ∧ va_S A s.heap H locs ∧ lv_has ls 5 [(0, .ref ob), (1, .ref tn), (2, .int L2l2)]) (fun n9 H locs ls hI ih_1 => ?_) _ _ _ _ ⟨0, obcv1, obcv2, obcg0, obg5, obg6, rfl, (show 0 ≤ 0 ∧ 0 ≤ 4 from by omega), hp_obcg0_0, hP.sub (ws' := [(ob, .inr (7, [.int obv0, .int obv1, .ref obc, .ref ob_3, .int obv4, .ref ob_5, .ref ob_6])), (obc, .inr (1, [.ref obc_0, .int obcv1, .int obcv2])), (obc_0, .inl (k 0, 8, .inl obcg0)), (ob_5, .inl (k 0, 40, .inl obg5)), (ob_6, .inl (k 0, 4, .inl obg6)), (tn, .inr (10, [.int tnv0, .int tnv1, .int tnv2, .ref tn_3, .ref tn_4, .ref tn_5, .ref tn_6, .int tnv7, .int tnv8, .ref tn_9, .ref tn_10, .int tnv11, .ref tn_12, .ref tn_13, .ref tn_14, .ref tn_15, .int tnv16, .ref tn_17, .ref tn_18, .ref tnt])), (tn_3, .inl (k 0, 10, .inl tng3)), (tn_4, .inl (k 0, 10, .inl tng4)), (tn_5, .inl (k 0, 10, .inl tng5)), (tn_9, .inl (k 0, 4, .inl tng9)), (tn_10, .inl (k 0, 4, .inl tng10)), (tn_12, .inl (k 0, 6, .inl tng12)), (tn_13, .inl (k 0, 6, .inl tng13)), (tn_14, .inl (k 0, 6, .inl tng14))]) [0, 1, 2, 3, 4, 5, 6, 7, 8, 9, 10, 11, 12, 13] rfl, hD.sub (ws' := [(ob, .inr (7, [.int obv0, .int obv1, .ref obc, .ref ob_3, .int obv4, .ref ob_5, .ref ob_6])), (obc, .inr (1, [.ref obc_0, .int obcv1, .int obcv2])), (obc_0, .inl (k 0, 8, .inl obcg0)), (ob_5, .inl (k 0, 40, .inl obg5)), (ob_6, .inl (k 0, 4, .inl obg6)), (tn, .inr (10, [.int tnv0, .int tnv1, .int tnv2, .ref tn_3, .ref tn_4, .ref tn_5, .ref tn_6, .int tnv7, .int tnv8, .ref tn_9, .ref tn_10, .int tnv11, .ref tn_12, .ref tn_13, .ref tn_14, .ref tn_15, .int tnv16, .ref tn_17, .ref tn_18, .ref tnt])), (tn_3, .inl (k 0, 10, .inl tng3)), (tn_4, .inl (k 0, 10, .inl tng4)), (tn_5, .inl (k 0, 10, .inl tng5)), (tn_9, .inl (k 0, 4, .inl tng9)), (tn_10, .inl (k 0, 4, .inl tng10)), (tn_12, .inl (k 0, 6, .inl tng12)), (tn_13, .inl (k 0, 6, .inl tng13)), (tn_14, .inl (k 0, 6, .inl tng14))]) [0, 1, 2, 3, 4, 5, 6, 7, 8, 9, 10, 11, 12, 13] (by decide +kernel) rfl, hS, lv_sub hl [1, 2, 0] rfl⟩
  clear hP hD hS hl
  obtain ⟨L2l2, L2f1x1, L2f1x2, L2a2, L2a3, L2a4, en_2, zL2l2, L2a2h0, hP, hD, hS, hl⟩ := hI
  refine lv_iload_n hx hb dX7_weighClerk_2 rfl (lv_at hl 2 rfl) ?_
  refine lv_aload_n hx hb dX7_weighClerk_3 rfl (lv_at hl 1 rfl) ?_
  refine va_get (D := D) (ci := 10) (v := .int tnv8) (C := RX10) (T := TX10) (N := 20) hx hb hts iT_X10 hown hK hP 5 rfl rfl 8 (by decide) (hts _ tw_1_107) (fun _ h9 => h9) rfl dX7_weighClerk_4 ?_
  refine lv_icmp_ge (tgt := 105) hx hb dX7_weighClerk_7 (by decide) (fun h_3 => ?_) (fun h_3 => ?_)
  · skip
    have zh_3 : tnv8.toInt ≤ L2l2.toInt := z_le h_3
    obtain ⟨hP9, hD9⟩ := sub2 hP hD (ws' := [(ob, .inr (7, [.int obv0, .int obv1, .ref obc, .ref ob_3, .int obv4, .ref ob_5, .ref ob_6])), (obc, .inr (1, [.ref obc_0, .int L2f1x1, .int L2f1x2])), (obc_0, .inl (k 0, 8, .inl L2a2)), (ob_5, .inl (k 0, 40, .inl L2a3)), (ob_6, .inl (k 0, 4, .inl L2a4)), (tn, .inr (10, [.int tnv0, .int tnv1, .int tnv2, .ref tn_3, .ref tn_4, .ref tn_5, .ref tn_6, .int tnv7, .int tnv8, .ref tn_9, .ref tn_10, .int tnv11, .ref tn_12, .ref tn_13, .ref tn_14, .ref tn_15, .int tnv16, .ref tn_17, .ref tn_18, .ref tnt])), (tn_3, .inl (k 0, 10, .inl tng3)), (tn_4, .inl (k 0, 10, .inl tng4)), (tn_5, .inl (k 0, 10, .inl tng5)), (tn_9, .inl (k 0, 4, .inl tng9)), (tn_10, .inl (k 0, 4, .inl tng10)), (tn_12, .inl (k 0, 6, .inl tng12)), (tn_13, .inl (k 0, 6, .inl tng13)), (tn_14, .inl (k 0, 6, .inl tng14))]) [0, 1, 2, 3, 4, 5, 6, 7, 8, 9, 10, 11, 12, 13] (by decide +kernel) rfl
    exact W.vret hx hb hr (fun tZ ht hW => ⟨⟨(L2f1x1, L2f1x2, L2a2, L2a3, L2a4), rfl, L2a2h0, by rw [ht]; exact hP9, va_K.moved hW.alike hK, hD9⟩, hS.F ht⟩) hS.2.2 dX7_weighClerk_105
  · skip
    have zh_3 : L2l2.toInt < tnv8.toInt := z_nle h_3
    refine lv_aload_n hx hb dX7_weighClerk_10 rfl (lv_at hl 0 rfl) ?_
    refine va_get (D := D) (ci := 7) (v := .ref ob_6) (C := RX7) (T := TX7) (N := 7) hx hb hts iT_X7 hown hK hP 0 rfl rfl 6 (by decide) (hts _ tw_2_72) (fun _ h9 => h9) rfl dX7_weighClerk_11 ?_
    refine lv_iload_n hx hb dX7_weighClerk_14 rfl (lv_at hl 2 rfl) ?_
    refine lv_aload_n hx hb dX7_weighClerk_15 rfl (lv_at hl 1 rfl) ?_
    obtain ⟨hPc, hDc, hFc⟩ := sub3 hP hD hS hA (ws' := [(tn, .inr (10, [.int tnv0, .int tnv1, .int tnv2, .ref tn_3, .ref tn_4, .ref tn_5, .ref tn_6, .int tnv7, .int tnv8, .ref tn_9, .ref tn_10, .int tnv11, .ref tn_12, .ref tn_13, .ref tn_14, .ref tn_15, .int tnv16, .ref tn_17, .ref tn_18, .ref tnt]))]) [5] (by decide +kernel) rfl
    refine va_calli (va_runV (C := RX10) (As := []) (rest := [.int L2l2, .ref ob_6]) ⟨hx, hb, hml, hown, hts⟩ (c_X10_openLanes l D k tn tnv0 tnv1 tnv2 tn_3 tn_4 tn_5 tn_6 tnv7 tnv8 tn_9 tn_10 tnv11 tn_12 tn_13 tn_14 tn_15 tnv16 tn_17 tn_18 tnt H.size (show 0 ≤ tnv0.toInt ∧ tnv0.toInt ≤ 8 from by omega) (show 0 ≤ tnv2.toInt ∧ tnv2.toInt ≤ 10 from by omega) (show 0 ≤ tnv8.toInt ∧ tnv8.toInt ≤ 4 from by omega) (show 0 ≤ tnv11.toInt ∧ tnv11.toInt ≤ 6 from by omega) (show 0 ≤ tnv16.toInt ∧ tnv16.toInt ≤ 2 from by omega)) (cwV 0 hts (gV tw_4_130 tw_3_180 tw_3_181 tw_1_3 tw_3_182) rfl rfl rfl hdV_X10_openLanes ⟨Nat.le_of_ble_eq_true rfl, Nat.le_of_ble_eq_true rfl⟩) (cz_V hK hPc hDc hN (ci := 10) (q0 := 0) rfl rfl []) rfl rfl hl.1 rfl (lv_room (Nat.le_of_ble_eq_true rfl)) dX7_weighClerk_16 ⟨Nat.le_of_ble_eq_true rfl, Nat.le_of_ble_eq_true rfl⟩) hS (fun q _ h => hFc q h) hFc (fun r_4 uZ tZ H1 locs ht hvm hw hB hz1 hk1 hS => ?_)
    obtain ⟨hP1, hK1, hD1⟩ := hB
    rw [ht] at hP1
    obtain ⟨hP, hD⟩ := va_join (wr := [(ob, .inr (7, [.int obv0, .int obv1, .ref obc, .ref ob_3, .int obv4, .ref ob_5, .ref ob_6])), (obc, .inr (1, [.ref obc_0, .int L2f1x1, .int L2f1x2])), (obc_0, .inl (k 0, 8, .inl L2a2)), (ob_5, .inl (k 0, 40, .inl L2a3)), (ob_6, .inl (k 0, 4, .inl L2a4)), (tn_3, .inl (k 0, 10, .inl tng3)), (tn_4, .inl (k 0, 10, .inl tng4)), (tn_5, .inl (k 0, 10, .inl tng5)), (tn_9, .inl (k 0, 4, .inl tng9)), (tn_10, .inl (k 0, 4, .inl tng10)), (tn_12, .inl (k 0, 6, .inl tng12)), (tn_13, .inl (k 0, 6, .inl tng13)), (tn_14, .inl (k 0, 6, .inl tng14))]) (w1 := [(tn, .inr (10, [.int tnv0, .int tnv1, .int tnv2, .ref tn_3, .ref tn_4, .ref tn_5, .ref tn_6, .int tnv7, .int tnv8, .ref tn_9, .ref tn_10, .int tnv11, .ref tn_12, .ref tn_13, .ref tn_14, .ref tn_15, .int tnv16, .ref tn_17, .ref tn_18, .ref tnt]))]) hP hD [5] [0, 1, 2, 3, 4, 6, 7, 8, 9, 10, 11, 12, 13] rfl rfl (by decide +kernel) (by decide +kernel) hk1 hFc hP1 hD1
    clear hK1 hP1 hD1 hPc hDc hFc
    clear hk1 hz1 ht hvm
    have hP : va_P D vwCl [(ob, .inr (7, [.int obv0, .int obv1, .ref obc, .ref ob_3, .int obv4, .ref ob_5, .ref ob_6])), (obc, .inr (1, [.ref obc_0, .int L2f1x1, .int L2f1x2])), (obc_0, .inl (k 0, 8, .inl L2a2)), (ob_5, .inl (k 0, 40, .inl L2a3)), (ob_6, .inl (k 0, 4, .inl L2a4)), (tn_3, .inl (k 0, 10, .inl tng3)), (tn_4, .inl (k 0, 10, .inl tng4)), (tn_5, .inl (k 0, 10, .inl tng5)), (tn_9, .inl (k 0, 4, .inl tng9)), (tn_10, .inl (k 0, 4, .inl tng10)), (tn_12, .inl (k 0, 6, .inl tng12)), (tn_13, .inl (k 0, 6, .inl tng13)), (tn_14, .inl (k 0, 6, .inl tng14)), (tn, .inr (10, [.int tnv0, .int tnv1, .int tnv2, .ref tn_3, .ref tn_4, .ref tn_5, .ref tn_6, .int tnv7, .int tnv8, .ref tn_9, .ref tn_10, .int tnv11, .ref tn_12, .ref tn_13, .ref tn_14, .ref tn_15, .int tnv16, .ref tn_17, .ref tn_18, .ref tnt]))] H1 := hP
    have hD : va_D A [(ob, .inr (7, [.int obv0, .int obv1, .ref obc, .ref ob_3, .int obv4, .ref ob_5, .ref ob_6])), (obc, .inr (1, [.ref obc_0, .int L2f1x1, .int L2f1x2])), (obc_0, .inl (k 0, 8, .inl L2a2)), (ob_5, .inl (k 0, 40, .inl L2a3)), (ob_6, .inl (k 0, 4, .inl L2a4)), (tn_3, .inl (k 0, 10, .inl tng3)), (tn_4, .inl (k 0, 10, .inl tng4)), (tn_5, .inl (k 0, 10, .inl tng5)), (tn_9, .inl (k 0, 4, .inl tng9)), (tn_10, .inl (k 0, 4, .inl tng10)), (tn_12, .inl (k 0, 6, .inl tng12)), (tn_13, .inl (k 0, 6, .inl tng13)), (tn_14, .inl (k 0, 6, .inl tng14)), (tn, .inr (10, [.int tnv0, .int tnv1, .int tnv2, .ref tn_3, .ref tn_4, .ref tn_5, .ref tn_6, .int tnv7, .int tnv8, .ref tn_9, .ref tn_10, .int tnv11, .ref tn_12, .ref tn_13, .ref tn_14, .ref tn_15, .int tnv16, .ref tn_17, .ref tn_18, .ref tnt]))] := hD
    generalize H1 = H at hP hS ⊢
    have hw_5 : (0 ≤ r_4.toInt ∧ r_4.toInt ≤ 1023) := hw
    have hw_6 := hw_5
    clear hw
    refine lv_if_ne (tgt := 32) hx hb dX7_weighClerk_19 (by decide) (fun h_7 => ?_) (fun h_7 => ?_)
    · skip
      have zh_7 : ¬ r_4.toInt = 0 := z_ne h_7
      refine lv_iconst (v := 0) hx hb dX7_weighClerk_32 (by decide) ?_
      refine va_iast hx hb hK hP hD hS 4 0 rfl rfl (z_in (by omega) (by omega)) dX7_weighClerk_33 (fun H locs hP hD hS => ?_)
      obtain ⟨g_8, eg_8⟩ : ∃ z : Nat → Int32, upd L2a4 L2l2.toNatClampNeg 0 = z := ⟨_, rfl⟩
      have hP : va_P D vwCl [(ob, .inr (7, [.int obv0, .int obv1, .ref obc, .ref ob_3, .int obv4, .ref ob_5, .ref ob_6])), (obc, .inr (1, [.ref obc_0, .int L2f1x1, .int L2f1x2])), (obc_0, .inl (k 0, 8, .inl L2a2)), (ob_5, .inl (k 0, 40, .inl L2a3)), (ob_6, .inl (k 0, 4, .inl (upd L2a4 L2l2.toNatClampNeg 0))), (tn_3, .inl (k 0, 10, .inl tng3)), (tn_4, .inl (k 0, 10, .inl tng4)), (tn_5, .inl (k 0, 10, .inl tng5)), (tn_9, .inl (k 0, 4, .inl tng9)), (tn_10, .inl (k 0, 4, .inl tng10)), (tn_12, .inl (k 0, 6, .inl tng12)), (tn_13, .inl (k 0, 6, .inl tng13)), (tn_14, .inl (k 0, 6, .inl tng14)), (tn, .inr (10, [.int tnv0, .int tnv1, .int tnv2, .ref tn_3, .ref tn_4, .ref tn_5, .ref tn_6, .int tnv7, .int tnv8, .ref tn_9, .ref tn_10, .int tnv11, .ref tn_12, .ref tn_13, .ref tn_14, .ref tn_15, .int tnv16, .ref tn_17, .ref tn_18, .ref tnt]))] H := hP
      have hD : va_D A [(ob, .inr (7, [.int obv0, .int obv1, .ref obc, .ref ob_3, .int obv4, .ref ob_5, .ref ob_6])), (obc, .inr (1, [.ref obc_0, .int L2f1x1, .int L2f1x2])), (obc_0, .inl (k 0, 8, .inl L2a2)), (ob_5, .inl (k 0, 40, .inl L2a3)), (ob_6, .inl (k 0, 4, .inl (upd L2a4 L2l2.toNatClampNeg 0))), (tn_3, .inl (k 0, 10, .inl tng3)), (tn_4, .inl (k 0, 10, .inl tng4)), (tn_5, .inl (k 0, 10, .inl tng5)), (tn_9, .inl (k 0, 4, .inl tng9)), (tn_10, .inl (k 0, 4, .inl tng10)), (tn_12, .inl (k 0, 6, .inl tng12)), (tn_13, .inl (k 0, 6, .inl tng13)), (tn_14, .inl (k 0, 6, .inl tng14)), (tn, .inr (10, [.int tnv0, .int tnv1, .int tnv2, .ref tn_3, .ref tn_4, .ref tn_5, .ref tn_6, .int tnv7, .int tnv8, .ref tn_9, .ref tn_10, .int tnv11, .ref tn_12, .ref tn_13, .ref tn_14, .ref tn_15, .int tnv16, .ref tn_17, .ref tn_18, .ref tnt]))] := hD
      rw [eg_8] at hP hD
      refine lv_iconst (v := 0) hx hb dX7_weighClerk_34 (by decide) ?_
      refine lv_istore_n (lv' := [(3, .int 0), (0, .ref ob), (1, .ref tn), (2, .int L2l2)]) hx hb dX7_weighClerk_35 rfl hl (by decide) rfl (fun ls hl => ?_)
      refine loop_r (Wg := fun H locs ls => W p l e _ s m _ below meth c H locs _ _ _ (F0 m 36 ls [])) (fun n9 H locs ls => ∃ (L36l3 : Int32) (L36f1x1 : Int32) (L36f1x2 : Int32) (L36a2 : Nat → Int32) (L36a3 : Nat → Int32) (L36a4 : Nat → Int32), n9 = (10 - L36l3.toInt).toNat ∧ (0 ≤ L36l3.toInt ∧ L36l3.toInt ≤ 10) ∧ (PR 8 1 0 0 1000000 L36a2) ∧ va_P D vwCl [(ob, .inr (7, [.int obv0, .int obv1, .ref obc, .ref ob_3, .int obv4, .ref ob_5, .ref ob_6])), (obc, .inr (1, [.ref obc_0, .int L36f1x1, .int L36f1x2])), (obc_0, .inl (k 0, 8, .inl L36a2)), (ob_5, .inl (k 0, 40, .inl L36a3)), (ob_6, .inl (k 0, 4, .inl L36a4)), (tn_3, .inl (k 0, 10, .inl tng3)), (tn_4, .inl (k 0, 10, .inl tng4)), (tn_5, .inl (k 0, 10, .inl tng5)), (tn_9, .inl (k 0, 4, .inl tng9)), (tn_10, .inl (k 0, 4, .inl tng10)), (tn_12, .inl (k 0, 6, .inl tng12)), (tn_13, .inl (k 0, 6, .inl tng13)), (tn_14, .inl (k 0, 6, .inl tng14)), (tn, .inr (10, [.int tnv0, .int tnv1, .int tnv2, .ref tn_3, .ref tn_4, .ref tn_5, .ref tn_6, .int tnv7, .int tnv8, .ref tn_9, .ref tn_10, .int tnv11, .ref tn_12, .ref tn_13, .ref tn_14, .ref tn_15, .int tnv16, .ref tn_17, .ref tn_18, .ref tnt]))] H ∧ va_D A [(ob, .inr (7, [.int obv0, .int obv1, .ref obc, .ref ob_3, .int obv4, .ref ob_5, .ref ob_6])), (obc, .inr (1, [.ref obc_0, .int L36f1x1, .int L36f1x2])), (obc_0, .inl (k 0, 8, .inl L36a2)), (ob_5, .inl (k 0, 40, .inl L36a3)), (ob_6, .inl (k 0, 4, .inl L36a4)), (tn_3, .inl (k 0, 10, .inl tng3)), (tn_4, .inl (k 0, 10, .inl tng4)), (tn_5, .inl (k 0, 10, .inl tng5)), (tn_9, .inl (k 0, 4, .inl tng9)), (tn_10, .inl (k 0, 4, .inl tng10)), (tn_12, .inl (k 0, 6, .inl tng12)), (tn_13, .inl (k 0, 6, .inl tng13)), (tn_14, .inl (k 0, 6, .inl tng14)), (tn, .inr (10, [.int tnv0, .int tnv1, .int tnv2, .ref tn_3, .ref tn_4, .ref tn_5, .ref tn_6, .int tnv7, .int tnv8, .ref tn_9, .ref tn_10, .int tnv11, .ref tn_12, .ref tn_13, .ref tn_14, .ref tn_15, .int tnv16, .ref tn_17, .ref tn_18, .ref tnt]))] ∧ va_S A s.heap H locs ∧ lv_has ls 5 [(0, .ref ob), (1, .ref tn), (2, .int L2l2), (3, .int L36l3)]) (fun n9 H locs ls hI ih_9 => ?_) _ _ _ _ ⟨0, L2f1x1, L2f1x2, L2a2, L2a3, g_8, rfl, (show 0 ≤ 0 ∧ 0 ≤ 10 from by omega), L2a2h0, hP.sub (ws' := [(ob, .inr (7, [.int obv0, .int obv1, .ref obc, .ref ob_3, .int obv4, .ref ob_5, .ref ob_6])), (obc, .inr (1, [.ref obc_0, .int L2f1x1, .int L2f1x2])), (obc_0, .inl (k 0, 8, .inl L2a2)), (ob_5, .inl (k 0, 40, .inl L2a3)), (ob_6, .inl (k 0, 4, .inl g_8)), (tn_3, .inl (k 0, 10, .inl tng3)), (tn_4, .inl (k 0, 10, .inl tng4)), (tn_5, .inl (k 0, 10, .inl tng5)), (tn_9, .inl (k 0, 4, .inl tng9)), (tn_10, .inl (k 0, 4, .inl tng10)), (tn_12, .inl (k 0, 6, .inl tng12)), (tn_13, .inl (k 0, 6, .inl tng13)), (tn_14, .inl (k 0, 6, .inl tng14)), (tn, .inr (10, [.int tnv0, .int tnv1, .int tnv2, .ref tn_3, .ref tn_4, .ref tn_5, .ref tn_6, .int tnv7, .int tnv8, .ref tn_9, .ref tn_10, .int tnv11, .ref tn_12, .ref tn_13, .ref tn_14, .ref tn_15, .int tnv16, .ref tn_17, .ref tn_18, .ref tnt]))]) [0, 1, 2, 3, 4, 5, 6, 7, 8, 9, 10, 11, 12, 13] rfl, hD.sub (ws' := [(ob, .inr (7, [.int obv0, .int obv1, .ref obc, .ref ob_3, .int obv4, .ref ob_5, .ref ob_6])), (obc, .inr (1, [.ref obc_0, .int L2f1x1, .int L2f1x2])), (obc_0, .inl (k 0, 8, .inl L2a2)), (ob_5, .inl (k 0, 40, .inl L2a3)), (ob_6, .inl (k 0, 4, .inl g_8)), (tn_3, .inl (k 0, 10, .inl tng3)), (tn_4, .inl (k 0, 10, .inl tng4)), (tn_5, .inl (k 0, 10, .inl tng5)), (tn_9, .inl (k 0, 4, .inl tng9)), (tn_10, .inl (k 0, 4, .inl tng10)), (tn_12, .inl (k 0, 6, .inl tng12)), (tn_13, .inl (k 0, 6, .inl tng13)), (tn_14, .inl (k 0, 6, .inl tng14)), (tn, .inr (10, [.int tnv0, .int tnv1, .int tnv2, .ref tn_3, .ref tn_4, .ref tn_5, .ref tn_6, .int tnv7, .int tnv8, .ref tn_9, .ref tn_10, .int tnv11, .ref tn_12, .ref tn_13, .ref tn_14, .ref tn_15, .int tnv16, .ref tn_17, .ref tn_18, .ref tnt]))]) [0, 1, 2, 3, 4, 5, 6, 7, 8, 9, 10, 11, 12, 13] (by decide +kernel) rfl, hS, lv_sub hl [1, 2, 3, 0] rfl⟩
      clear hP hD hS hl
      obtain ⟨L36l3, L36f1x1, L36f1x2, L36a2, L36a3, L36a4, en_10, zL36l3, L36a2h0, hP, hD, hS, hl⟩ := hI
      refine lv_iload_n hx hb dX7_weighClerk_36 rfl (lv_at hl 3 rfl) ?_
      refine lv_aload_n hx hb dX7_weighClerk_37 rfl (lv_at hl 1 rfl) ?_
      refine va_get (D := D) (ci := 10) (v := .int tnv2) (C := RX10) (T := TX10) (N := 20) hx hb hts iT_X10 hown hK hP 13 rfl rfl 2 (by decide) (hts _ tw_1_80) (fun _ h9 => h9) rfl dX7_weighClerk_38 ?_
      refine lv_icmp_ge (tgt := 99) hx hb dX7_weighClerk_41 (by decide) (fun h_11 => ?_) (fun h_11 => ?_)
      · skip
        have zh_11 : tnv2.toInt ≤ L36l3.toInt := z_le h_11
        obtain ⟨x_12, ex_12⟩ : ∃ y : Int32, y = L2l2 + 1 := ⟨_, rfl⟩
        have zx_12 : x_12.toInt = L2l2.toInt + 1 := by rw [ex_12]; exact z_add rfl rfl (by omega) (by omega)
        refine lv_iinc (v := x_12) (lv' := [(2, .int x_12), (0, .ref ob), (1, .ref tn), (3, .int L36l3)]) hx hb dX7_weighClerk_99 hl (k := 2) rfl (by rw [ex_12]; rfl) (by decide) rfl (fun ls hl => ?_)
        refine lv_goto (tgt := 2) hx hb dX7_weighClerk_102 (by decide) ?_
        exact ih_1 _ _ _ _ (by omega) ⟨x_12, L36f1x1, L36f1x2, L36a2, L36a3, L36a4, rfl, (show 0 ≤ x_12.toInt ∧ x_12.toInt ≤ 4 from by omega), L36a2h0, hP.sub (ws' := [(ob, .inr (7, [.int obv0, .int obv1, .ref obc, .ref ob_3, .int obv4, .ref ob_5, .ref ob_6])), (obc, .inr (1, [.ref obc_0, .int L36f1x1, .int L36f1x2])), (obc_0, .inl (k 0, 8, .inl L36a2)), (ob_5, .inl (k 0, 40, .inl L36a3)), (ob_6, .inl (k 0, 4, .inl L36a4)), (tn, .inr (10, [.int tnv0, .int tnv1, .int tnv2, .ref tn_3, .ref tn_4, .ref tn_5, .ref tn_6, .int tnv7, .int tnv8, .ref tn_9, .ref tn_10, .int tnv11, .ref tn_12, .ref tn_13, .ref tn_14, .ref tn_15, .int tnv16, .ref tn_17, .ref tn_18, .ref tnt])), (tn_3, .inl (k 0, 10, .inl tng3)), (tn_4, .inl (k 0, 10, .inl tng4)), (tn_5, .inl (k 0, 10, .inl tng5)), (tn_9, .inl (k 0, 4, .inl tng9)), (tn_10, .inl (k 0, 4, .inl tng10)), (tn_12, .inl (k 0, 6, .inl tng12)), (tn_13, .inl (k 0, 6, .inl tng13)), (tn_14, .inl (k 0, 6, .inl tng14))]) [0, 1, 2, 3, 4, 13, 5, 6, 7, 8, 9, 10, 11, 12] rfl, hD.sub (ws' := [(ob, .inr (7, [.int obv0, .int obv1, .ref obc, .ref ob_3, .int obv4, .ref ob_5, .ref ob_6])), (obc, .inr (1, [.ref obc_0, .int L36f1x1, .int L36f1x2])), (obc_0, .inl (k 0, 8, .inl L36a2)), (ob_5, .inl (k 0, 40, .inl L36a3)), (ob_6, .inl (k 0, 4, .inl L36a4)), (tn, .inr (10, [.int tnv0, .int tnv1, .int tnv2, .ref tn_3, .ref tn_4, .ref tn_5, .ref tn_6, .int tnv7, .int tnv8, .ref tn_9, .ref tn_10, .int tnv11, .ref tn_12, .ref tn_13, .ref tn_14, .ref tn_15, .int tnv16, .ref tn_17, .ref tn_18, .ref tnt])), (tn_3, .inl (k 0, 10, .inl tng3)), (tn_4, .inl (k 0, 10, .inl tng4)), (tn_5, .inl (k 0, 10, .inl tng5)), (tn_9, .inl (k 0, 4, .inl tng9)), (tn_10, .inl (k 0, 4, .inl tng10)), (tn_12, .inl (k 0, 6, .inl tng12)), (tn_13, .inl (k 0, 6, .inl tng13)), (tn_14, .inl (k 0, 6, .inl tng14))]) [0, 1, 2, 3, 4, 13, 5, 6, 7, 8, 9, 10, 11, 12] (by decide +kernel) rfl, hS, lv_sub hl [1, 2, 0] rfl⟩
      · skip
        have zh_11 : L36l3.toInt < tnv2.toInt := z_nle h_11
        refine lv_aload_n hx hb dX7_weighClerk_44 rfl (lv_at hl 1 rfl) ?_
        refine lv_iload_n hx hb dX7_weighClerk_45 rfl (lv_at hl 3 rfl) ?_
        obtain ⟨hPc, hDc, hFc⟩ := sub3 hP hD hS hA (ws' := [(tn, .inr (10, [.int tnv0, .int tnv1, .int tnv2, .ref tn_3, .ref tn_4, .ref tn_5, .ref tn_6, .int tnv7, .int tnv8, .ref tn_9, .ref tn_10, .int tnv11, .ref tn_12, .ref tn_13, .ref tn_14, .ref tn_15, .int tnv16, .ref tn_17, .ref tn_18, .ref tnt]))]) [13] (by decide +kernel) rfl
        refine va_calli (va_runS (As := [.ref tn, .int L36l3]) (rest := []) ⟨hx, hb, hml, hown, hts⟩ (c_X7_isOpenIn l D k tn L36l3 tnv0 tnv1 tnv2 tn_3 tn_4 tn_5 tn_6 tnv7 tnv8 tn_9 tn_10 tnv11 tn_12 tn_13 tn_14 tn_15 tnv16 tn_17 tn_18 tnt H.size (show 0 ≤ tnv0.toInt ∧ tnv0.toInt ≤ 8 from by omega) (show 0 ≤ tnv2.toInt ∧ tnv2.toInt ≤ 10 from by omega) (show 0 ≤ tnv8.toInt ∧ tnv8.toInt ≤ 4 from by omega) (show 0 ≤ tnv11.toInt ∧ tnv11.toInt ≤ 6 from by omega) (show 0 ≤ tnv16.toInt ∧ tnv16.toInt ≤ 2 from by omega)) (va_cwS 2 hts (gS tw_5_118 tw_5_119 tw_1_8 tw_5_120) rfl rfl rfl hdS_X7_isOpenIn ⟨Nat.le_of_ble_eq_true rfl, Nat.le_of_ble_eq_true rfl⟩) (cz_S hK hPc hDc hN [.ref tn, .int L36l3]) rfl rfl hl.1 rfl (lv_room (Nat.le_of_ble_eq_true rfl)) dX7_weighClerk_46 ⟨Nat.le_of_ble_eq_true rfl, Nat.le_of_ble_eq_true rfl⟩) hS (fun q _ h => hFc q h) hFc (fun r_13 uZ tZ H1 locs ht hvm hw hB hz1 hk1 hS => ?_)
        obtain ⟨hP1, hK1, hD1⟩ := hB
        rw [ht] at hP1
        obtain ⟨hP, hD⟩ := va_join (wr := [(ob, .inr (7, [.int obv0, .int obv1, .ref obc, .ref ob_3, .int obv4, .ref ob_5, .ref ob_6])), (obc, .inr (1, [.ref obc_0, .int L36f1x1, .int L36f1x2])), (obc_0, .inl (k 0, 8, .inl L36a2)), (ob_5, .inl (k 0, 40, .inl L36a3)), (ob_6, .inl (k 0, 4, .inl L36a4)), (tn_3, .inl (k 0, 10, .inl tng3)), (tn_4, .inl (k 0, 10, .inl tng4)), (tn_5, .inl (k 0, 10, .inl tng5)), (tn_9, .inl (k 0, 4, .inl tng9)), (tn_10, .inl (k 0, 4, .inl tng10)), (tn_12, .inl (k 0, 6, .inl tng12)), (tn_13, .inl (k 0, 6, .inl tng13)), (tn_14, .inl (k 0, 6, .inl tng14))]) (w1 := [(tn, .inr (10, [.int tnv0, .int tnv1, .int tnv2, .ref tn_3, .ref tn_4, .ref tn_5, .ref tn_6, .int tnv7, .int tnv8, .ref tn_9, .ref tn_10, .int tnv11, .ref tn_12, .ref tn_13, .ref tn_14, .ref tn_15, .int tnv16, .ref tn_17, .ref tn_18, .ref tnt]))]) hP hD [13] [0, 1, 2, 3, 4, 5, 6, 7, 8, 9, 10, 11, 12] rfl rfl (by decide +kernel) (by decide +kernel) hk1 hFc hP1 hD1
        clear hK1 hP1 hD1 hPc hDc hFc
        clear hk1 hz1 ht hvm
        have hP : va_P D vwCl [(ob, .inr (7, [.int obv0, .int obv1, .ref obc, .ref ob_3, .int obv4, .ref ob_5, .ref ob_6])), (obc, .inr (1, [.ref obc_0, .int L36f1x1, .int L36f1x2])), (obc_0, .inl (k 0, 8, .inl L36a2)), (ob_5, .inl (k 0, 40, .inl L36a3)), (ob_6, .inl (k 0, 4, .inl L36a4)), (tn_3, .inl (k 0, 10, .inl tng3)), (tn_4, .inl (k 0, 10, .inl tng4)), (tn_5, .inl (k 0, 10, .inl tng5)), (tn_9, .inl (k 0, 4, .inl tng9)), (tn_10, .inl (k 0, 4, .inl tng10)), (tn_12, .inl (k 0, 6, .inl tng12)), (tn_13, .inl (k 0, 6, .inl tng13)), (tn_14, .inl (k 0, 6, .inl tng14)), (tn, .inr (10, [.int tnv0, .int tnv1, .int tnv2, .ref tn_3, .ref tn_4, .ref tn_5, .ref tn_6, .int tnv7, .int tnv8, .ref tn_9, .ref tn_10, .int tnv11, .ref tn_12, .ref tn_13, .ref tn_14, .ref tn_15, .int tnv16, .ref tn_17, .ref tn_18, .ref tnt]))] H1 := hP
        have hD : va_D A [(ob, .inr (7, [.int obv0, .int obv1, .ref obc, .ref ob_3, .int obv4, .ref ob_5, .ref ob_6])), (obc, .inr (1, [.ref obc_0, .int L36f1x1, .int L36f1x2])), (obc_0, .inl (k 0, 8, .inl L36a2)), (ob_5, .inl (k 0, 40, .inl L36a3)), (ob_6, .inl (k 0, 4, .inl L36a4)), (tn_3, .inl (k 0, 10, .inl tng3)), (tn_4, .inl (k 0, 10, .inl tng4)), (tn_5, .inl (k 0, 10, .inl tng5)), (tn_9, .inl (k 0, 4, .inl tng9)), (tn_10, .inl (k 0, 4, .inl tng10)), (tn_12, .inl (k 0, 6, .inl tng12)), (tn_13, .inl (k 0, 6, .inl tng13)), (tn_14, .inl (k 0, 6, .inl tng14)), (tn, .inr (10, [.int tnv0, .int tnv1, .int tnv2, .ref tn_3, .ref tn_4, .ref tn_5, .ref tn_6, .int tnv7, .int tnv8, .ref tn_9, .ref tn_10, .int tnv11, .ref tn_12, .ref tn_13, .ref tn_14, .ref tn_15, .int tnv16, .ref tn_17, .ref tn_18, .ref tnt]))] := hD
        generalize H1 = H at hP hS ⊢
        have hw_14 : (0 ≤ r_13.toInt ∧ r_13.toInt ≤ 1) := hw
        have hw_15 := hw_14
        clear hw
        refine lv_if_eq (tgt := 93) hx hb dX7_weighClerk_49 (by decide) (fun h_16 => ?_) (fun h_16 => ?_)
        · skip
          have zh_16 : r_13.toInt = 0 := z_eq h_16
          obtain ⟨x_17, ex_17⟩ : ∃ y : Int32, y = L36l3 + 1 := ⟨_, rfl⟩
          have zx_17 : x_17.toInt = L36l3.toInt + 1 := by rw [ex_17]; exact z_add rfl rfl (by omega) (by omega)
          refine lv_iinc (v := x_17) (lv' := [(3, .int x_17), (0, .ref ob), (1, .ref tn), (2, .int L2l2)]) hx hb dX7_weighClerk_93 hl (k := 3) rfl (by rw [ex_17]; rfl) (by decide) rfl (fun ls hl => ?_)
          refine lv_goto (tgt := 36) hx hb dX7_weighClerk_96 (by decide) ?_
          exact ih_9 _ _ _ _ (by omega) ⟨x_17, L36f1x1, L36f1x2, L36a2, L36a3, L36a4, rfl, (show 0 ≤ x_17.toInt ∧ x_17.toInt ≤ 10 from by omega), L36a2h0, hP.sub (ws' := [(ob, .inr (7, [.int obv0, .int obv1, .ref obc, .ref ob_3, .int obv4, .ref ob_5, .ref ob_6])), (obc, .inr (1, [.ref obc_0, .int L36f1x1, .int L36f1x2])), (obc_0, .inl (k 0, 8, .inl L36a2)), (ob_5, .inl (k 0, 40, .inl L36a3)), (ob_6, .inl (k 0, 4, .inl L36a4)), (tn_3, .inl (k 0, 10, .inl tng3)), (tn_4, .inl (k 0, 10, .inl tng4)), (tn_5, .inl (k 0, 10, .inl tng5)), (tn_9, .inl (k 0, 4, .inl tng9)), (tn_10, .inl (k 0, 4, .inl tng10)), (tn_12, .inl (k 0, 6, .inl tng12)), (tn_13, .inl (k 0, 6, .inl tng13)), (tn_14, .inl (k 0, 6, .inl tng14)), (tn, .inr (10, [.int tnv0, .int tnv1, .int tnv2, .ref tn_3, .ref tn_4, .ref tn_5, .ref tn_6, .int tnv7, .int tnv8, .ref tn_9, .ref tn_10, .int tnv11, .ref tn_12, .ref tn_13, .ref tn_14, .ref tn_15, .int tnv16, .ref tn_17, .ref tn_18, .ref tnt]))]) [0, 1, 2, 3, 4, 5, 6, 7, 8, 9, 10, 11, 12, 13] rfl, hD.sub (ws' := [(ob, .inr (7, [.int obv0, .int obv1, .ref obc, .ref ob_3, .int obv4, .ref ob_5, .ref ob_6])), (obc, .inr (1, [.ref obc_0, .int L36f1x1, .int L36f1x2])), (obc_0, .inl (k 0, 8, .inl L36a2)), (ob_5, .inl (k 0, 40, .inl L36a3)), (ob_6, .inl (k 0, 4, .inl L36a4)), (tn_3, .inl (k 0, 10, .inl tng3)), (tn_4, .inl (k 0, 10, .inl tng4)), (tn_5, .inl (k 0, 10, .inl tng5)), (tn_9, .inl (k 0, 4, .inl tng9)), (tn_10, .inl (k 0, 4, .inl tng10)), (tn_12, .inl (k 0, 6, .inl tng12)), (tn_13, .inl (k 0, 6, .inl tng13)), (tn_14, .inl (k 0, 6, .inl tng14)), (tn, .inr (10, [.int tnv0, .int tnv1, .int tnv2, .ref tn_3, .ref tn_4, .ref tn_5, .ref tn_6, .int tnv7, .int tnv8, .ref tn_9, .ref tn_10, .int tnv11, .ref tn_12, .ref tn_13, .ref tn_14, .ref tn_15, .int tnv16, .ref tn_17, .ref tn_18, .ref tnt]))]) [0, 1, 2, 3, 4, 5, 6, 7, 8, 9, 10, 11, 12, 13] (by decide +kernel) rfl, hS, lv_sub hl [1, 2, 3, 0] rfl⟩
        · skip
          have zh_16 : ¬ r_13.toInt = 0 := z_ne h_16
          refine lv_aload_n hx hb dX7_weighClerk_52 rfl (lv_at hl 0 rfl) ?_
          refine lv_aload_n hx hb dX7_weighClerk_53 rfl (lv_at hl 1 rfl) ?_
          refine lv_iload_n hx hb dX7_weighClerk_54 rfl (lv_at hl 2 rfl) ?_
          refine lv_iconst (v := 1) hx hb dX7_weighClerk_55 (by decide) ?_
          refine lv_iload_n hx hb dX7_weighClerk_56 rfl (lv_at hl 3 rfl) ?_
          refine lv_ishl hx hb dX7_weighClerk_57 ?_
          refine lv_topi (fun x_18 ex_18 => ?_)
          have zx_18 : 1 ≤ x_18.toInt ∧ x_18.toInt ≤ 512 := by rw [ex_18]; exact z_shl1 9 512 rfl (by decide) (by omega) (by omega)
          obtain ⟨hPc, hDc, hFc⟩ := sub3 hP hD hS hA (ws' := [(ob, .inr (7, [.int obv0, .int obv1, .ref obc, .ref ob_3, .int obv4, .ref ob_5, .ref ob_6])), (obc, .inr (1, [.ref obc_0, .int L36f1x1, .int L36f1x2])), (obc_0, .inl (k 0, 8, .inl L36a2)), (tn, .inr (10, [.int tnv0, .int tnv1, .int tnv2, .ref tn_3, .ref tn_4, .ref tn_5, .ref tn_6, .int tnv7, .int tnv8, .ref tn_9, .ref tn_10, .int tnv11, .ref tn_12, .ref tn_13, .ref tn_14, .ref tn_15, .int tnv16, .ref tn_17, .ref tn_18, .ref tnt])), (tn_3, .inl (k 0, 10, .inl tng3)), (tn_4, .inl (k 0, 10, .inl tng4)), (tn_5, .inl (k 0, 10, .inl tng5)), (tn_9, .inl (k 0, 4, .inl tng9)), (tn_10, .inl (k 0, 4, .inl tng10)), (tn_12, .inl (k 0, 6, .inl tng12)), (tn_13, .inl (k 0, 6, .inl tng13)), (tn_14, .inl (k 0, 6, .inl tng14))]) [0, 1, 2, 13, 5, 6, 7, 8, 9, 10, 11, 12] (by decide +kernel) rfl
          refine va_calli (va_runV (C := RX7) (As := [.ref tn, .int L2l2, .int x_18]) (rest := []) ⟨hx, hb, hml, hown, hts⟩ (c_X7_gladClerked l D k ob tn L2l2 x_18 obv0 obv1 obc ob_3 obv4 ob_5 ob_6 obc_0 L36f1x1 L36f1x2 L36a2 tnv0 tnv1 tnv2 tn_3 tn_4 tn_5 tn_6 tnv7 tnv8 tn_9 tn_10 tnv11 tn_12 tn_13 tn_14 tn_15 tnv16 tn_17 tn_18 tnt tng3 tng4 tng5 tng9 tng10 tng12 tng13 tng14 H.size (show 0 ≤ L2l2.toInt ∧ L2l2.toInt ≤ 3 from by omega) (show 0 ≤ obv4.toInt ∧ obv4.toInt ≤ 1024 from by omega) L36a2h0 (show 0 ≤ tnv0.toInt ∧ tnv0.toInt ≤ 8 from by omega) (show 0 ≤ tnv2.toInt ∧ tnv2.toInt ≤ 10 from by omega) (show 0 ≤ tnv8.toInt ∧ tnv8.toInt ≤ 4 from by omega) (show 0 ≤ tnv11.toInt ∧ tnv11.toInt ≤ 6 from by omega) (show 0 ≤ tnv16.toInt ∧ tnv16.toInt ≤ 2 from by omega) hp_tng3_0 hp_tng4_0 hp_tng5_0 hp_tng9_0 hp_tng10_0 hp_tng12_0 hp_tng13_0 hp_tng14_0) (cwV 3 hts (gV tw_5_113 tw_5_115 tw_p_32 tw_1_8 tw_5_116) rfl rfl rfl hdV_X7_gladClerked ⟨Nat.le_of_ble_eq_true rfl, Nat.le_of_ble_eq_true rfl⟩) (cz_V hK hPc hDc hN (ci := 7) (q0 := 0) rfl rfl [.ref tn, .int L2l2, .int x_18]) rfl rfl hl.1 rfl (lv_room (Nat.le_of_ble_eq_true rfl)) dX7_weighClerk_58 ⟨Nat.le_of_ble_eq_true rfl, Nat.le_of_ble_eq_true rfl⟩) hS (fun q _ h => hFc q h) hFc (fun r_19 uZ tZ H1 locs ht hvm hw hB hz1 hk1 hS => ?_)
          obtain ⟨o_20, o_21, o_22⟩ := uZ
          obtain ⟨hP1, hK1, hD1⟩ := hB
          rw [ht] at hP1
          obtain ⟨hP, hD⟩ := va_join (wr := [(ob_5, .inl (k 0, 40, .inl L36a3)), (ob_6, .inl (k 0, 4, .inl L36a4))]) (w1 := [(ob, .inr (7, [.int obv0, .int obv1, .ref obc, .ref ob_3, .int obv4, .ref ob_5, .ref ob_6])), (obc, .inr (1, [.ref obc_0, .int o_20, .int o_21])), (obc_0, .inl (k 0, 8, .inl o_22)), (tn, .inr (10, [.int tnv0, .int tnv1, .int tnv2, .ref tn_3, .ref tn_4, .ref tn_5, .ref tn_6, .int tnv7, .int tnv8, .ref tn_9, .ref tn_10, .int tnv11, .ref tn_12, .ref tn_13, .ref tn_14, .ref tn_15, .int tnv16, .ref tn_17, .ref tn_18, .ref tnt])), (tn_3, .inl (k 0, 10, .inl tng3)), (tn_4, .inl (k 0, 10, .inl tng4)), (tn_5, .inl (k 0, 10, .inl tng5)), (tn_9, .inl (k 0, 4, .inl tng9)), (tn_10, .inl (k 0, 4, .inl tng10)), (tn_12, .inl (k 0, 6, .inl tng12)), (tn_13, .inl (k 0, 6, .inl tng13)), (tn_14, .inl (k 0, 6, .inl tng14))]) hP hD [0, 1, 2, 13, 5, 6, 7, 8, 9, 10, 11, 12] [3, 4] rfl rfl (by decide +kernel) (by decide +kernel) hk1 hFc hP1 hD1
          clear hK1 hP1 hD1 hPc hDc hFc
          clear hk1 hz1 ht hvm
          have hP : va_P D vwCl [(ob_5, .inl (k 0, 40, .inl L36a3)), (ob_6, .inl (k 0, 4, .inl L36a4)), (ob, .inr (7, [.int obv0, .int obv1, .ref obc, .ref ob_3, .int obv4, .ref ob_5, .ref ob_6])), (obc, .inr (1, [.ref obc_0, .int o_20, .int o_21])), (obc_0, .inl (k 0, 8, .inl o_22)), (tn, .inr (10, [.int tnv0, .int tnv1, .int tnv2, .ref tn_3, .ref tn_4, .ref tn_5, .ref tn_6, .int tnv7, .int tnv8, .ref tn_9, .ref tn_10, .int tnv11, .ref tn_12, .ref tn_13, .ref tn_14, .ref tn_15, .int tnv16, .ref tn_17, .ref tn_18, .ref tnt])), (tn_3, .inl (k 0, 10, .inl tng3)), (tn_4, .inl (k 0, 10, .inl tng4)), (tn_5, .inl (k 0, 10, .inl tng5)), (tn_9, .inl (k 0, 4, .inl tng9)), (tn_10, .inl (k 0, 4, .inl tng10)), (tn_12, .inl (k 0, 6, .inl tng12)), (tn_13, .inl (k 0, 6, .inl tng13)), (tn_14, .inl (k 0, 6, .inl tng14))] H1 := hP
          have hD : va_D A [(ob_5, .inl (k 0, 40, .inl L36a3)), (ob_6, .inl (k 0, 4, .inl L36a4)), (ob, .inr (7, [.int obv0, .int obv1, .ref obc, .ref ob_3, .int obv4, .ref ob_5, .ref ob_6])), (obc, .inr (1, [.ref obc_0, .int o_20, .int o_21])), (obc_0, .inl (k 0, 8, .inl o_22)), (tn, .inr (10, [.int tnv0, .int tnv1, .int tnv2, .ref tn_3, .ref tn_4, .ref tn_5, .ref tn_6, .int tnv7, .int tnv8, .ref tn_9, .ref tn_10, .int tnv11, .ref tn_12, .ref tn_13, .ref tn_14, .ref tn_15, .int tnv16, .ref tn_17, .ref tn_18, .ref tnt])), (tn_3, .inl (k 0, 10, .inl tng3)), (tn_4, .inl (k 0, 10, .inl tng4)), (tn_5, .inl (k 0, 10, .inl tng5)), (tn_9, .inl (k 0, 4, .inl tng9)), (tn_10, .inl (k 0, 4, .inl tng10)), (tn_12, .inl (k 0, 6, .inl tng12)), (tn_13, .inl (k 0, 6, .inl tng13)), (tn_14, .inl (k 0, 6, .inl tng14))] := hD
          generalize H1 = H at hP hS ⊢
          have hw_23 : (PR 8 1 0 0 1000000 o_22) := hw
          have hw_24 := hw_23
          clear hw
          refine lv_istore (lv' := [(4, .int r_19), (0, .ref ob), (1, .ref tn), (2, .int L2l2), (3, .int L36l3)]) hx hb dX7_weighClerk_61 hl (by decide) rfl (fun ls hl => ?_)
          refine lv_aload_n hx hb dX7_weighClerk_63 rfl (lv_at hl 1 rfl) ?_
          refine va_get (D := D) (ci := 7) (v := .ref ob_5) (C := RX7) (T := TX7) (N := 7) hx hb hts iT_X7 hown hK hP 2 rfl rfl 5 (by decide) (hts _ tw_2_71) (fun _ h9 => h9) rfl dX7_weighClerk_64 ?_
          refine lv_iload_n hx hb dX7_weighClerk_67 rfl (lv_at hl 3 rfl) ?_
          refine lv_bipush (v := 10) hx hb dX7_weighClerk_68 (by decide) ?_
          refine lv_imul hx hb dX7_weighClerk_70 ?_
          refine lv_topi (fun x_25 ex_25 => ?_)
          have zx_25 : x_25.toInt = L2l2.toInt * 10 := by rw [ex_25]; exact z_mul rfl rfl (by omega) (by omega)
          refine lv_iload_n hx hb dX7_weighClerk_71 rfl (lv_at hl 4 rfl) ?_
          refine lv_iadd hx hb dX7_weighClerk_72 ?_
          refine lv_topi (fun x_26 ex_26 => ?_)
          have zx_26 : x_26.toInt = x_25.toInt + L36l3.toInt := by rw [ex_26]; exact z_add rfl rfl (by omega) (by omega)
          refine lv_iload hx hb dX7_weighClerk_73 (lv_at hl 0 rfl) ?_
          refine va_iast hx hb hK hP hD hS 0 0 rfl rfl (z_in (by omega) (by omega)) dX7_weighClerk_75 (fun H locs hP hD hS => ?_)
          obtain ⟨g_27, eg_27⟩ : ∃ z : Nat → Int32, upd L36a3 x_26.toNatClampNeg r_19 = z := ⟨_, rfl⟩
          have hP : va_P D vwCl [(ob_5, .inl (k 0, 40, .inl (upd L36a3 x_26.toNatClampNeg r_19))), (ob_6, .inl (k 0, 4, .inl L36a4)), (ob, .inr (7, [.int obv0, .int obv1, .ref obc, .ref ob_3, .int obv4, .ref ob_5, .ref ob_6])), (obc, .inr (1, [.ref obc_0, .int o_20, .int o_21])), (obc_0, .inl (k 0, 8, .inl o_22)), (tn, .inr (10, [.int tnv0, .int tnv1, .int tnv2, .ref tn_3, .ref tn_4, .ref tn_5, .ref tn_6, .int tnv7, .int tnv8, .ref tn_9, .ref tn_10, .int tnv11, .ref tn_12, .ref tn_13, .ref tn_14, .ref tn_15, .int tnv16, .ref tn_17, .ref tn_18, .ref tnt])), (tn_3, .inl (k 0, 10, .inl tng3)), (tn_4, .inl (k 0, 10, .inl tng4)), (tn_5, .inl (k 0, 10, .inl tng5)), (tn_9, .inl (k 0, 4, .inl tng9)), (tn_10, .inl (k 0, 4, .inl tng10)), (tn_12, .inl (k 0, 6, .inl tng12)), (tn_13, .inl (k 0, 6, .inl tng13)), (tn_14, .inl (k 0, 6, .inl tng14))] H := hP
          have hD : va_D A [(ob_5, .inl (k 0, 40, .inl (upd L36a3 x_26.toNatClampNeg r_19))), (ob_6, .inl (k 0, 4, .inl L36a4)), (ob, .inr (7, [.int obv0, .int obv1, .ref obc, .ref ob_3, .int obv4, .ref ob_5, .ref ob_6])), (obc, .inr (1, [.ref obc_0, .int o_20, .int o_21])), (obc_0, .inl (k 0, 8, .inl o_22)), (tn, .inr (10, [.int tnv0, .int tnv1, .int tnv2, .ref tn_3, .ref tn_4, .ref tn_5, .ref tn_6, .int tnv7, .int tnv8, .ref tn_9, .ref tn_10, .int tnv11, .ref tn_12, .ref tn_13, .ref tn_14, .ref tn_15, .int tnv16, .ref tn_17, .ref tn_18, .ref tnt])), (tn_3, .inl (k 0, 10, .inl tng3)), (tn_4, .inl (k 0, 10, .inl tng4)), (tn_5, .inl (k 0, 10, .inl tng5)), (tn_9, .inl (k 0, 4, .inl tng9)), (tn_10, .inl (k 0, 4, .inl tng10)), (tn_12, .inl (k 0, 6, .inl tng12)), (tn_13, .inl (k 0, 6, .inl tng13)), (tn_14, .inl (k 0, 6, .inl tng14))] := hD
          rw [eg_27] at hP hD
          refine lv_aload_n hx hb dX7_weighClerk_76 rfl (lv_at hl 1 rfl) ?_
          refine va_get (D := D) (ci := 7) (v := .ref ob_6) (C := RX7) (T := TX7) (N := 7) hx hb hts iT_X7 hown hK hP 2 rfl rfl 6 (by decide) (hts _ tw_2_72) (fun _ h9 => h9) rfl dX7_weighClerk_77 ?_
          refine lv_iload_n hx hb dX7_weighClerk_80 rfl (lv_at hl 3 rfl) ?_
          refine lv_aload_n hx hb dX7_weighClerk_81 rfl (lv_at hl 1 rfl) ?_
          refine va_get (D := D) (ci := 7) (v := .ref ob_6) (C := RX7) (T := TX7) (N := 7) hx hb hts iT_X7 hown hK hP 2 rfl rfl 6 (by decide) (hts _ tw_2_72) (fun _ h9 => h9) rfl dX7_weighClerk_82 ?_
          refine lv_iload_n hx hb dX7_weighClerk_85 rfl (lv_at hl 3 rfl) ?_
          refine va_iald hx hb hK hP 1 0 rfl rfl (z_in (by omega) (by omega)) dX7_weighClerk_86 ?_
          refine lv_topi (fun x_28 ex_28 => ?_)
          refine lv_iload hx hb dX7_weighClerk_87 (lv_at hl 0 rfl) ?_
          obtain ⟨hPc, hDc, hFc⟩ := sub3 hP hD hS hA (ws' := []) [] (by decide +kernel) rfl
          refine va_calli (va_runS (As := [.int x_28, .int r_19]) (rest := [.int L2l2, .ref ob_6]) ⟨hx, hb, hml, hown, hts⟩ (c_J9_max_7cf53 l D k x_28 r_19 H.size) (va_cwS 2 hts (gS tw_5_121 tw_4_11 tw_1_14 tw_4_12) rfl rfl rfl hdS_J9_max_7cf53 ⟨Nat.le_of_ble_eq_true rfl, Nat.le_of_ble_eq_true rfl⟩) (cz_S hK hPc hDc hN [.int x_28, .int r_19]) rfl rfl hl.1 rfl (lv_room (Nat.le_of_ble_eq_true rfl)) dX7_weighClerk_89 ⟨Nat.le_of_ble_eq_true rfl, Nat.le_of_ble_eq_true rfl⟩) hS (fun q _ h => hFc q h) hFc (fun r_29 uZ tZ H1 locs ht hvm hw hB hz1 hk1 hS => ?_)
          obtain ⟨hP1, hK1, hD1⟩ := hB
          rw [ht] at hP1
          obtain ⟨hP, hD⟩ := va_join (wr := [(ob_5, .inl (k 0, 40, .inl g_27)), (ob_6, .inl (k 0, 4, .inl L36a4)), (ob, .inr (7, [.int obv0, .int obv1, .ref obc, .ref ob_3, .int obv4, .ref ob_5, .ref ob_6])), (obc, .inr (1, [.ref obc_0, .int o_20, .int o_21])), (obc_0, .inl (k 0, 8, .inl o_22)), (tn, .inr (10, [.int tnv0, .int tnv1, .int tnv2, .ref tn_3, .ref tn_4, .ref tn_5, .ref tn_6, .int tnv7, .int tnv8, .ref tn_9, .ref tn_10, .int tnv11, .ref tn_12, .ref tn_13, .ref tn_14, .ref tn_15, .int tnv16, .ref tn_17, .ref tn_18, .ref tnt])), (tn_3, .inl (k 0, 10, .inl tng3)), (tn_4, .inl (k 0, 10, .inl tng4)), (tn_5, .inl (k 0, 10, .inl tng5)), (tn_9, .inl (k 0, 4, .inl tng9)), (tn_10, .inl (k 0, 4, .inl tng10)), (tn_12, .inl (k 0, 6, .inl tng12)), (tn_13, .inl (k 0, 6, .inl tng13)), (tn_14, .inl (k 0, 6, .inl tng14))]) (w1 := []) hP hD [] [0, 1, 2, 3, 4, 5, 6, 7, 8, 9, 10, 11, 12, 13] rfl rfl (by decide +kernel) (by decide +kernel) hk1 hFc hP1 hD1
          clear hK1 hP1 hD1 hPc hDc hFc
          clear hk1 hz1 ht hvm
          have hP : va_P D vwCl [(ob_5, .inl (k 0, 40, .inl g_27)), (ob_6, .inl (k 0, 4, .inl L36a4)), (ob, .inr (7, [.int obv0, .int obv1, .ref obc, .ref ob_3, .int obv4, .ref ob_5, .ref ob_6])), (obc, .inr (1, [.ref obc_0, .int o_20, .int o_21])), (obc_0, .inl (k 0, 8, .inl o_22)), (tn, .inr (10, [.int tnv0, .int tnv1, .int tnv2, .ref tn_3, .ref tn_4, .ref tn_5, .ref tn_6, .int tnv7, .int tnv8, .ref tn_9, .ref tn_10, .int tnv11, .ref tn_12, .ref tn_13, .ref tn_14, .ref tn_15, .int tnv16, .ref tn_17, .ref tn_18, .ref tnt])), (tn_3, .inl (k 0, 10, .inl tng3)), (tn_4, .inl (k 0, 10, .inl tng4)), (tn_5, .inl (k 0, 10, .inl tng5)), (tn_9, .inl (k 0, 4, .inl tng9)), (tn_10, .inl (k 0, 4, .inl tng10)), (tn_12, .inl (k 0, 6, .inl tng12)), (tn_13, .inl (k 0, 6, .inl tng13)), (tn_14, .inl (k 0, 6, .inl tng14))] H1 := hP
          have hD : va_D A [(ob_5, .inl (k 0, 40, .inl g_27)), (ob_6, .inl (k 0, 4, .inl L36a4)), (ob, .inr (7, [.int obv0, .int obv1, .ref obc, .ref ob_3, .int obv4, .ref ob_5, .ref ob_6])), (obc, .inr (1, [.ref obc_0, .int o_20, .int o_21])), (obc_0, .inl (k 0, 8, .inl o_22)), (tn, .inr (10, [.int tnv0, .int tnv1, .int tnv2, .ref tn_3, .ref tn_4, .ref tn_5, .ref tn_6, .int tnv7, .int tnv8, .ref tn_9, .ref tn_10, .int tnv11, .ref tn_12, .ref tn_13, .ref tn_14, .ref tn_15, .int tnv16, .ref tn_17, .ref tn_18, .ref tnt])), (tn_3, .inl (k 0, 10, .inl tng3)), (tn_4, .inl (k 0, 10, .inl tng4)), (tn_5, .inl (k 0, 10, .inl tng5)), (tn_9, .inl (k 0, 4, .inl tng9)), (tn_10, .inl (k 0, 4, .inl tng10)), (tn_12, .inl (k 0, 6, .inl tng12)), (tn_13, .inl (k 0, 6, .inl tng13)), (tn_14, .inl (k 0, 6, .inl tng14))] := hD
          generalize H1 = H at hP hS ⊢
          have hw_30 : (x_28.toInt ≤ r_29.toInt ∧ r_19.toInt ≤ r_29.toInt ∧ (r_29.toInt = x_28.toInt ∨ r_29.toInt = r_19.toInt)) := hw
          have hw_31 := hw_30
          clear hw
          refine va_iast hx hb hK hP hD hS 1 0 rfl rfl (z_in (by omega) (by omega)) dX7_weighClerk_92 (fun H locs hP hD hS => ?_)
          obtain ⟨g_32, eg_32⟩ : ∃ z : Nat → Int32, upd L36a4 L2l2.toNatClampNeg r_29 = z := ⟨_, rfl⟩
          have hP : va_P D vwCl [(ob_5, .inl (k 0, 40, .inl g_27)), (ob_6, .inl (k 0, 4, .inl (upd L36a4 L2l2.toNatClampNeg r_29))), (ob, .inr (7, [.int obv0, .int obv1, .ref obc, .ref ob_3, .int obv4, .ref ob_5, .ref ob_6])), (obc, .inr (1, [.ref obc_0, .int o_20, .int o_21])), (obc_0, .inl (k 0, 8, .inl o_22)), (tn, .inr (10, [.int tnv0, .int tnv1, .int tnv2, .ref tn_3, .ref tn_4, .ref tn_5, .ref tn_6, .int tnv7, .int tnv8, .ref tn_9, .ref tn_10, .int tnv11, .ref tn_12, .ref tn_13, .ref tn_14, .ref tn_15, .int tnv16, .ref tn_17, .ref tn_18, .ref tnt])), (tn_3, .inl (k 0, 10, .inl tng3)), (tn_4, .inl (k 0, 10, .inl tng4)), (tn_5, .inl (k 0, 10, .inl tng5)), (tn_9, .inl (k 0, 4, .inl tng9)), (tn_10, .inl (k 0, 4, .inl tng10)), (tn_12, .inl (k 0, 6, .inl tng12)), (tn_13, .inl (k 0, 6, .inl tng13)), (tn_14, .inl (k 0, 6, .inl tng14))] H := hP
          have hD : va_D A [(ob_5, .inl (k 0, 40, .inl g_27)), (ob_6, .inl (k 0, 4, .inl (upd L36a4 L2l2.toNatClampNeg r_29))), (ob, .inr (7, [.int obv0, .int obv1, .ref obc, .ref ob_3, .int obv4, .ref ob_5, .ref ob_6])), (obc, .inr (1, [.ref obc_0, .int o_20, .int o_21])), (obc_0, .inl (k 0, 8, .inl o_22)), (tn, .inr (10, [.int tnv0, .int tnv1, .int tnv2, .ref tn_3, .ref tn_4, .ref tn_5, .ref tn_6, .int tnv7, .int tnv8, .ref tn_9, .ref tn_10, .int tnv11, .ref tn_12, .ref tn_13, .ref tn_14, .ref tn_15, .int tnv16, .ref tn_17, .ref tn_18, .ref tnt])), (tn_3, .inl (k 0, 10, .inl tng3)), (tn_4, .inl (k 0, 10, .inl tng4)), (tn_5, .inl (k 0, 10, .inl tng5)), (tn_9, .inl (k 0, 4, .inl tng9)), (tn_10, .inl (k 0, 4, .inl tng10)), (tn_12, .inl (k 0, 6, .inl tng12)), (tn_13, .inl (k 0, 6, .inl tng13)), (tn_14, .inl (k 0, 6, .inl tng14))] := hD
          rw [eg_32] at hP hD
          obtain ⟨x_33, ex_33⟩ : ∃ y : Int32, y = L36l3 + 1 := ⟨_, rfl⟩
          have zx_33 : x_33.toInt = L36l3.toInt + 1 := by rw [ex_33]; exact z_add rfl rfl (by omega) (by omega)
          refine lv_iinc (v := x_33) (lv' := [(3, .int x_33), (4, .int r_19), (0, .ref ob), (1, .ref tn), (2, .int L2l2)]) hx hb dX7_weighClerk_93 hl (k := 4) rfl (by rw [ex_33]; rfl) (by decide) rfl (fun ls hl => ?_)
          refine lv_goto (tgt := 36) hx hb dX7_weighClerk_96 (by decide) ?_
          exact ih_9 _ _ _ _ (by omega) ⟨x_33, o_20, o_21, o_22, g_27, g_32, rfl, (show 0 ≤ x_33.toInt ∧ x_33.toInt ≤ 10 from by omega), hw_24, hP.sub (ws' := [(ob, .inr (7, [.int obv0, .int obv1, .ref obc, .ref ob_3, .int obv4, .ref ob_5, .ref ob_6])), (obc, .inr (1, [.ref obc_0, .int o_20, .int o_21])), (obc_0, .inl (k 0, 8, .inl o_22)), (ob_5, .inl (k 0, 40, .inl g_27)), (ob_6, .inl (k 0, 4, .inl g_32)), (tn_3, .inl (k 0, 10, .inl tng3)), (tn_4, .inl (k 0, 10, .inl tng4)), (tn_5, .inl (k 0, 10, .inl tng5)), (tn_9, .inl (k 0, 4, .inl tng9)), (tn_10, .inl (k 0, 4, .inl tng10)), (tn_12, .inl (k 0, 6, .inl tng12)), (tn_13, .inl (k 0, 6, .inl tng13)), (tn_14, .inl (k 0, 6, .inl tng14)), (tn, .inr (10, [.int tnv0, .int tnv1, .int tnv2, .ref tn_3, .ref tn_4, .ref tn_5, .ref tn_6, .int tnv7, .int tnv8, .ref tn_9, .ref tn_10, .int tnv11, .ref tn_12, .ref tn_13, .ref tn_14, .ref tn_15, .int tnv16, .ref tn_17, .ref tn_18, .ref tnt]))]) [2, 3, 4, 0, 1, 6, 7, 8, 9, 10, 11, 12, 13, 5] rfl, hD.sub (ws' := [(ob, .inr (7, [.int obv0, .int obv1, .ref obc, .ref ob_3, .int obv4, .ref ob_5, .ref ob_6])), (obc, .inr (1, [.ref obc_0, .int o_20, .int o_21])), (obc_0, .inl (k 0, 8, .inl o_22)), (ob_5, .inl (k 0, 40, .inl g_27)), (ob_6, .inl (k 0, 4, .inl g_32)), (tn_3, .inl (k 0, 10, .inl tng3)), (tn_4, .inl (k 0, 10, .inl tng4)), (tn_5, .inl (k 0, 10, .inl tng5)), (tn_9, .inl (k 0, 4, .inl tng9)), (tn_10, .inl (k 0, 4, .inl tng10)), (tn_12, .inl (k 0, 6, .inl tng12)), (tn_13, .inl (k 0, 6, .inl tng13)), (tn_14, .inl (k 0, 6, .inl tng14)), (tn, .inr (10, [.int tnv0, .int tnv1, .int tnv2, .ref tn_3, .ref tn_4, .ref tn_5, .ref tn_6, .int tnv7, .int tnv8, .ref tn_9, .ref tn_10, .int tnv11, .ref tn_12, .ref tn_13, .ref tn_14, .ref tn_15, .int tnv16, .ref tn_17, .ref tn_18, .ref tnt]))]) [2, 3, 4, 0, 1, 6, 7, 8, 9, 10, 11, 12, 13, 5] (by decide +kernel) rfl, hS, lv_sub hl [2, 3, 4, 0] rfl⟩
    · skip
      have zh_7 : r_4.toInt = 0 := z_eq h_7
      refine lv_aload_n hx hb dX7_weighClerk_22 rfl (lv_at hl 0 rfl) ?_
      refine lv_aload_n hx hb dX7_weighClerk_23 rfl (lv_at hl 1 rfl) ?_
      refine lv_iload_n hx hb dX7_weighClerk_24 rfl (lv_at hl 2 rfl) ?_
      refine lv_iconst (v := 0) hx hb dX7_weighClerk_25 (by decide) ?_
      obtain ⟨hPc, hDc, hFc⟩ := sub3 hP hD hS hA (ws' := [(ob, .inr (7, [.int obv0, .int obv1, .ref obc, .ref ob_3, .int obv4, .ref ob_5, .ref ob_6])), (obc, .inr (1, [.ref obc_0, .int L2f1x1, .int L2f1x2])), (obc_0, .inl (k 0, 8, .inl L2a2)), (tn, .inr (10, [.int tnv0, .int tnv1, .int tnv2, .ref tn_3, .ref tn_4, .ref tn_5, .ref tn_6, .int tnv7, .int tnv8, .ref tn_9, .ref tn_10, .int tnv11, .ref tn_12, .ref tn_13, .ref tn_14, .ref tn_15, .int tnv16, .ref tn_17, .ref tn_18, .ref tnt])), (tn_3, .inl (k 0, 10, .inl tng3)), (tn_4, .inl (k 0, 10, .inl tng4)), (tn_5, .inl (k 0, 10, .inl tng5)), (tn_9, .inl (k 0, 4, .inl tng9)), (tn_10, .inl (k 0, 4, .inl tng10)), (tn_12, .inl (k 0, 6, .inl tng12)), (tn_13, .inl (k 0, 6, .inl tng13)), (tn_14, .inl (k 0, 6, .inl tng14))]) [0, 1, 2, 13, 5, 6, 7, 8, 9, 10, 11, 12] (by decide +kernel) rfl
      refine va_calli (va_runV (C := RX7) (As := [.ref tn, .int L2l2, .int 0]) (rest := [.int L2l2, .ref ob_6]) ⟨hx, hb, hml, hown, hts⟩ (c_X7_gladClerked l D k ob tn L2l2 0 obv0 obv1 obc ob_3 obv4 ob_5 ob_6 obc_0 L2f1x1 L2f1x2 L2a2 tnv0 tnv1 tnv2 tn_3 tn_4 tn_5 tn_6 tnv7 tnv8 tn_9 tn_10 tnv11 tn_12 tn_13 tn_14 tn_15 tnv16 tn_17 tn_18 tnt tng3 tng4 tng5 tng9 tng10 tng12 tng13 tng14 H.size (show 0 ≤ L2l2.toInt ∧ L2l2.toInt ≤ 3 from by omega) (show 0 ≤ obv4.toInt ∧ obv4.toInt ≤ 1024 from by omega) L2a2h0 (show 0 ≤ tnv0.toInt ∧ tnv0.toInt ≤ 8 from by omega) (show 0 ≤ tnv2.toInt ∧ tnv2.toInt ≤ 10 from by omega) (show 0 ≤ tnv8.toInt ∧ tnv8.toInt ≤ 4 from by omega) (show 0 ≤ tnv11.toInt ∧ tnv11.toInt ≤ 6 from by omega) (show 0 ≤ tnv16.toInt ∧ tnv16.toInt ≤ 2 from by omega) hp_tng3_0 hp_tng4_0 hp_tng5_0 hp_tng9_0 hp_tng10_0 hp_tng12_0 hp_tng13_0 hp_tng14_0) (cwV 3 hts (gV tw_5_113 tw_5_115 tw_p_32 tw_1_8 tw_5_116) rfl rfl rfl hdV_X7_gladClerked ⟨Nat.le_of_ble_eq_true rfl, Nat.le_of_ble_eq_true rfl⟩) (cz_V hK hPc hDc hN (ci := 7) (q0 := 0) rfl rfl [.ref tn, .int L2l2, .int 0]) rfl rfl hl.1 rfl (lv_room (Nat.le_of_ble_eq_true rfl)) dX7_weighClerk_26 ⟨Nat.le_of_ble_eq_true rfl, Nat.le_of_ble_eq_true rfl⟩) hS (fun q _ h => hFc q h) hFc (fun r_34 uZ tZ H1 locs ht hvm hw hB hz1 hk1 hS => ?_)
      obtain ⟨o_35, o_36, o_37⟩ := uZ
      obtain ⟨hP1, hK1, hD1⟩ := hB
      rw [ht] at hP1
      obtain ⟨hP, hD⟩ := va_join (wr := [(ob_5, .inl (k 0, 40, .inl L2a3)), (ob_6, .inl (k 0, 4, .inl L2a4))]) (w1 := [(ob, .inr (7, [.int obv0, .int obv1, .ref obc, .ref ob_3, .int obv4, .ref ob_5, .ref ob_6])), (obc, .inr (1, [.ref obc_0, .int o_35, .int o_36])), (obc_0, .inl (k 0, 8, .inl o_37)), (tn, .inr (10, [.int tnv0, .int tnv1, .int tnv2, .ref tn_3, .ref tn_4, .ref tn_5, .ref tn_6, .int tnv7, .int tnv8, .ref tn_9, .ref tn_10, .int tnv11, .ref tn_12, .ref tn_13, .ref tn_14, .ref tn_15, .int tnv16, .ref tn_17, .ref tn_18, .ref tnt])), (tn_3, .inl (k 0, 10, .inl tng3)), (tn_4, .inl (k 0, 10, .inl tng4)), (tn_5, .inl (k 0, 10, .inl tng5)), (tn_9, .inl (k 0, 4, .inl tng9)), (tn_10, .inl (k 0, 4, .inl tng10)), (tn_12, .inl (k 0, 6, .inl tng12)), (tn_13, .inl (k 0, 6, .inl tng13)), (tn_14, .inl (k 0, 6, .inl tng14))]) hP hD [0, 1, 2, 13, 5, 6, 7, 8, 9, 10, 11, 12] [3, 4] rfl rfl (by decide +kernel) (by decide +kernel) hk1 hFc hP1 hD1
      clear hK1 hP1 hD1 hPc hDc hFc
      clear hk1 hz1 ht hvm
      have hP : va_P D vwCl [(ob_5, .inl (k 0, 40, .inl L2a3)), (ob_6, .inl (k 0, 4, .inl L2a4)), (ob, .inr (7, [.int obv0, .int obv1, .ref obc, .ref ob_3, .int obv4, .ref ob_5, .ref ob_6])), (obc, .inr (1, [.ref obc_0, .int o_35, .int o_36])), (obc_0, .inl (k 0, 8, .inl o_37)), (tn, .inr (10, [.int tnv0, .int tnv1, .int tnv2, .ref tn_3, .ref tn_4, .ref tn_5, .ref tn_6, .int tnv7, .int tnv8, .ref tn_9, .ref tn_10, .int tnv11, .ref tn_12, .ref tn_13, .ref tn_14, .ref tn_15, .int tnv16, .ref tn_17, .ref tn_18, .ref tnt])), (tn_3, .inl (k 0, 10, .inl tng3)), (tn_4, .inl (k 0, 10, .inl tng4)), (tn_5, .inl (k 0, 10, .inl tng5)), (tn_9, .inl (k 0, 4, .inl tng9)), (tn_10, .inl (k 0, 4, .inl tng10)), (tn_12, .inl (k 0, 6, .inl tng12)), (tn_13, .inl (k 0, 6, .inl tng13)), (tn_14, .inl (k 0, 6, .inl tng14))] H1 := hP
      have hD : va_D A [(ob_5, .inl (k 0, 40, .inl L2a3)), (ob_6, .inl (k 0, 4, .inl L2a4)), (ob, .inr (7, [.int obv0, .int obv1, .ref obc, .ref ob_3, .int obv4, .ref ob_5, .ref ob_6])), (obc, .inr (1, [.ref obc_0, .int o_35, .int o_36])), (obc_0, .inl (k 0, 8, .inl o_37)), (tn, .inr (10, [.int tnv0, .int tnv1, .int tnv2, .ref tn_3, .ref tn_4, .ref tn_5, .ref tn_6, .int tnv7, .int tnv8, .ref tn_9, .ref tn_10, .int tnv11, .ref tn_12, .ref tn_13, .ref tn_14, .ref tn_15, .int tnv16, .ref tn_17, .ref tn_18, .ref tnt])), (tn_3, .inl (k 0, 10, .inl tng3)), (tn_4, .inl (k 0, 10, .inl tng4)), (tn_5, .inl (k 0, 10, .inl tng5)), (tn_9, .inl (k 0, 4, .inl tng9)), (tn_10, .inl (k 0, 4, .inl tng10)), (tn_12, .inl (k 0, 6, .inl tng12)), (tn_13, .inl (k 0, 6, .inl tng13)), (tn_14, .inl (k 0, 6, .inl tng14))] := hD
      generalize H1 = H at hP hS ⊢
      have hw_38 : (PR 8 1 0 0 1000000 o_37) := hw
      have hw_39 := hw_38
      clear hw
      refine lv_goto (tgt := 33) hx hb dX7_weighClerk_29 (by decide) ?_
      refine va_iast hx hb hK hP hD hS 1 0 rfl rfl (z_in (by omega) (by omega)) dX7_weighClerk_33 (fun H locs hP hD hS => ?_)
      obtain ⟨g_40, eg_40⟩ : ∃ z : Nat → Int32, upd L2a4 L2l2.toNatClampNeg r_34 = z := ⟨_, rfl⟩
      have hP : va_P D vwCl [(ob_5, .inl (k 0, 40, .inl L2a3)), (ob_6, .inl (k 0, 4, .inl (upd L2a4 L2l2.toNatClampNeg r_34))), (ob, .inr (7, [.int obv0, .int obv1, .ref obc, .ref ob_3, .int obv4, .ref ob_5, .ref ob_6])), (obc, .inr (1, [.ref obc_0, .int o_35, .int o_36])), (obc_0, .inl (k 0, 8, .inl o_37)), (tn, .inr (10, [.int tnv0, .int tnv1, .int tnv2, .ref tn_3, .ref tn_4, .ref tn_5, .ref tn_6, .int tnv7, .int tnv8, .ref tn_9, .ref tn_10, .int tnv11, .ref tn_12, .ref tn_13, .ref tn_14, .ref tn_15, .int tnv16, .ref tn_17, .ref tn_18, .ref tnt])), (tn_3, .inl (k 0, 10, .inl tng3)), (tn_4, .inl (k 0, 10, .inl tng4)), (tn_5, .inl (k 0, 10, .inl tng5)), (tn_9, .inl (k 0, 4, .inl tng9)), (tn_10, .inl (k 0, 4, .inl tng10)), (tn_12, .inl (k 0, 6, .inl tng12)), (tn_13, .inl (k 0, 6, .inl tng13)), (tn_14, .inl (k 0, 6, .inl tng14))] H := hP
      have hD : va_D A [(ob_5, .inl (k 0, 40, .inl L2a3)), (ob_6, .inl (k 0, 4, .inl (upd L2a4 L2l2.toNatClampNeg r_34))), (ob, .inr (7, [.int obv0, .int obv1, .ref obc, .ref ob_3, .int obv4, .ref ob_5, .ref ob_6])), (obc, .inr (1, [.ref obc_0, .int o_35, .int o_36])), (obc_0, .inl (k 0, 8, .inl o_37)), (tn, .inr (10, [.int tnv0, .int tnv1, .int tnv2, .ref tn_3, .ref tn_4, .ref tn_5, .ref tn_6, .int tnv7, .int tnv8, .ref tn_9, .ref tn_10, .int tnv11, .ref tn_12, .ref tn_13, .ref tn_14, .ref tn_15, .int tnv16, .ref tn_17, .ref tn_18, .ref tnt])), (tn_3, .inl (k 0, 10, .inl tng3)), (tn_4, .inl (k 0, 10, .inl tng4)), (tn_5, .inl (k 0, 10, .inl tng5)), (tn_9, .inl (k 0, 4, .inl tng9)), (tn_10, .inl (k 0, 4, .inl tng10)), (tn_12, .inl (k 0, 6, .inl tng12)), (tn_13, .inl (k 0, 6, .inl tng13)), (tn_14, .inl (k 0, 6, .inl tng14))] := hD
      rw [eg_40] at hP hD
      refine lv_iconst (v := 0) hx hb dX7_weighClerk_34 (by decide) ?_
      refine lv_istore_n (lv' := [(3, .int 0), (0, .ref ob), (1, .ref tn), (2, .int L2l2)]) hx hb dX7_weighClerk_35 rfl hl (by decide) rfl (fun ls hl => ?_)
      refine loop_r (Wg := fun H locs ls => W p l e _ s m _ below meth c H locs _ _ _ (F0 m 36 ls [])) (fun n9 H locs ls => ∃ (L36l3 : Int32) (L36a0 : Nat → Int32) (L36a1 : Nat → Int32) (L36f3x1 : Int32) (L36f3x2 : Int32) (L36a4 : Nat → Int32), n9 = (10 - L36l3.toInt).toNat ∧ (0 ≤ L36l3.toInt ∧ L36l3.toInt ≤ 10) ∧ (PR 8 1 0 0 1000000 L36a4) ∧ va_P D vwCl [(ob_5, .inl (k 0, 40, .inl L36a0)), (ob_6, .inl (k 0, 4, .inl L36a1)), (ob, .inr (7, [.int obv0, .int obv1, .ref obc, .ref ob_3, .int obv4, .ref ob_5, .ref ob_6])), (obc, .inr (1, [.ref obc_0, .int L36f3x1, .int L36f3x2])), (obc_0, .inl (k 0, 8, .inl L36a4)), (tn, .inr (10, [.int tnv0, .int tnv1, .int tnv2, .ref tn_3, .ref tn_4, .ref tn_5, .ref tn_6, .int tnv7, .int tnv8, .ref tn_9, .ref tn_10, .int tnv11, .ref tn_12, .ref tn_13, .ref tn_14, .ref tn_15, .int tnv16, .ref tn_17, .ref tn_18, .ref tnt])), (tn_3, .inl (k 0, 10, .inl tng3)), (tn_4, .inl (k 0, 10, .inl tng4)), (tn_5, .inl (k 0, 10, .inl tng5)), (tn_9, .inl (k 0, 4, .inl tng9)), (tn_10, .inl (k 0, 4, .inl tng10)), (tn_12, .inl (k 0, 6, .inl tng12)), (tn_13, .inl (k 0, 6, .inl tng13)), (tn_14, .inl (k 0, 6, .inl tng14))] H ∧ va_D A [(ob_5, .inl (k 0, 40, .inl L36a0)), (ob_6, .inl (k 0, 4, .inl L36a1)), (ob, .inr (7, [.int obv0, .int obv1, .ref obc, .ref ob_3, .int obv4, .ref ob_5, .ref ob_6])), (obc, .inr (1, [.ref obc_0, .int L36f3x1, .int L36f3x2])), (obc_0, .inl (k 0, 8, .inl L36a4)), (tn, .inr (10, [.int tnv0, .int tnv1, .int tnv2, .ref tn_3, .ref tn_4, .ref tn_5, .ref tn_6, .int tnv7, .int tnv8, .ref tn_9, .ref tn_10, .int tnv11, .ref tn_12, .ref tn_13, .ref tn_14, .ref tn_15, .int tnv16, .ref tn_17, .ref tn_18, .ref tnt])), (tn_3, .inl (k 0, 10, .inl tng3)), (tn_4, .inl (k 0, 10, .inl tng4)), (tn_5, .inl (k 0, 10, .inl tng5)), (tn_9, .inl (k 0, 4, .inl tng9)), (tn_10, .inl (k 0, 4, .inl tng10)), (tn_12, .inl (k 0, 6, .inl tng12)), (tn_13, .inl (k 0, 6, .inl tng13)), (tn_14, .inl (k 0, 6, .inl tng14))] ∧ va_S A s.heap H locs ∧ lv_has ls 5 [(0, .ref ob), (1, .ref tn), (2, .int L2l2), (3, .int L36l3)]) (fun n9 H locs ls hI ih_41 => ?_) _ _ _ _ ⟨0, L2a3, g_40, o_35, o_36, o_37, rfl, (show 0 ≤ 0 ∧ 0 ≤ 10 from by omega), hw_39, hP.sub (ws' := [(ob_5, .inl (k 0, 40, .inl L2a3)), (ob_6, .inl (k 0, 4, .inl g_40)), (ob, .inr (7, [.int obv0, .int obv1, .ref obc, .ref ob_3, .int obv4, .ref ob_5, .ref ob_6])), (obc, .inr (1, [.ref obc_0, .int o_35, .int o_36])), (obc_0, .inl (k 0, 8, .inl o_37)), (tn, .inr (10, [.int tnv0, .int tnv1, .int tnv2, .ref tn_3, .ref tn_4, .ref tn_5, .ref tn_6, .int tnv7, .int tnv8, .ref tn_9, .ref tn_10, .int tnv11, .ref tn_12, .ref tn_13, .ref tn_14, .ref tn_15, .int tnv16, .ref tn_17, .ref tn_18, .ref tnt])), (tn_3, .inl (k 0, 10, .inl tng3)), (tn_4, .inl (k 0, 10, .inl tng4)), (tn_5, .inl (k 0, 10, .inl tng5)), (tn_9, .inl (k 0, 4, .inl tng9)), (tn_10, .inl (k 0, 4, .inl tng10)), (tn_12, .inl (k 0, 6, .inl tng12)), (tn_13, .inl (k 0, 6, .inl tng13)), (tn_14, .inl (k 0, 6, .inl tng14))]) [0, 1, 2, 3, 4, 5, 6, 7, 8, 9, 10, 11, 12, 13] rfl, hD.sub (ws' := [(ob_5, .inl (k 0, 40, .inl L2a3)), (ob_6, .inl (k 0, 4, .inl g_40)), (ob, .inr (7, [.int obv0, .int obv1, .ref obc, .ref ob_3, .int obv4, .ref ob_5, .ref ob_6])), (obc, .inr (1, [.ref obc_0, .int o_35, .int o_36])), (obc_0, .inl (k 0, 8, .inl o_37)), (tn, .inr (10, [.int tnv0, .int tnv1, .int tnv2, .ref tn_3, .ref tn_4, .ref tn_5, .ref tn_6, .int tnv7, .int tnv8, .ref tn_9, .ref tn_10, .int tnv11, .ref tn_12, .ref tn_13, .ref tn_14, .ref tn_15, .int tnv16, .ref tn_17, .ref tn_18, .ref tnt])), (tn_3, .inl (k 0, 10, .inl tng3)), (tn_4, .inl (k 0, 10, .inl tng4)), (tn_5, .inl (k 0, 10, .inl tng5)), (tn_9, .inl (k 0, 4, .inl tng9)), (tn_10, .inl (k 0, 4, .inl tng10)), (tn_12, .inl (k 0, 6, .inl tng12)), (tn_13, .inl (k 0, 6, .inl tng13)), (tn_14, .inl (k 0, 6, .inl tng14))]) [0, 1, 2, 3, 4, 5, 6, 7, 8, 9, 10, 11, 12, 13] (by decide +kernel) rfl, hS, lv_sub hl [1, 2, 3, 0] rfl⟩
      clear hP hD hS hl
      obtain ⟨L36l3, L36a0, L36a1, L36f3x1, L36f3x2, L36a4, en_42, zL36l3, L36a4h0, hP, hD, hS, hl⟩ := hI
      refine lv_iload_n hx hb dX7_weighClerk_36 rfl (lv_at hl 3 rfl) ?_
      refine lv_aload_n hx hb dX7_weighClerk_37 rfl (lv_at hl 1 rfl) ?_
      refine va_get (D := D) (ci := 10) (v := .int tnv2) (C := RX10) (T := TX10) (N := 20) hx hb hts iT_X10 hown hK hP 5 rfl rfl 2 (by decide) (hts _ tw_1_80) (fun _ h9 => h9) rfl dX7_weighClerk_38 ?_
      refine lv_icmp_ge (tgt := 99) hx hb dX7_weighClerk_41 (by decide) (fun h_43 => ?_) (fun h_43 => ?_)
      · skip
        have zh_43 : tnv2.toInt ≤ L36l3.toInt := z_le h_43
        obtain ⟨x_44, ex_44⟩ : ∃ y : Int32, y = L2l2 + 1 := ⟨_, rfl⟩
        have zx_44 : x_44.toInt = L2l2.toInt + 1 := by rw [ex_44]; exact z_add rfl rfl (by omega) (by omega)
        refine lv_iinc (v := x_44) (lv' := [(2, .int x_44), (0, .ref ob), (1, .ref tn), (3, .int L36l3)]) hx hb dX7_weighClerk_99 hl (k := 2) rfl (by rw [ex_44]; rfl) (by decide) rfl (fun ls hl => ?_)
        refine lv_goto (tgt := 2) hx hb dX7_weighClerk_102 (by decide) ?_
        exact ih_1 _ _ _ _ (by omega) ⟨x_44, L36f3x1, L36f3x2, L36a4, L36a0, L36a1, rfl, (show 0 ≤ x_44.toInt ∧ x_44.toInt ≤ 4 from by omega), L36a4h0, hP.sub (ws' := [(ob, .inr (7, [.int obv0, .int obv1, .ref obc, .ref ob_3, .int obv4, .ref ob_5, .ref ob_6])), (obc, .inr (1, [.ref obc_0, .int L36f3x1, .int L36f3x2])), (obc_0, .inl (k 0, 8, .inl L36a4)), (ob_5, .inl (k 0, 40, .inl L36a0)), (ob_6, .inl (k 0, 4, .inl L36a1)), (tn, .inr (10, [.int tnv0, .int tnv1, .int tnv2, .ref tn_3, .ref tn_4, .ref tn_5, .ref tn_6, .int tnv7, .int tnv8, .ref tn_9, .ref tn_10, .int tnv11, .ref tn_12, .ref tn_13, .ref tn_14, .ref tn_15, .int tnv16, .ref tn_17, .ref tn_18, .ref tnt])), (tn_3, .inl (k 0, 10, .inl tng3)), (tn_4, .inl (k 0, 10, .inl tng4)), (tn_5, .inl (k 0, 10, .inl tng5)), (tn_9, .inl (k 0, 4, .inl tng9)), (tn_10, .inl (k 0, 4, .inl tng10)), (tn_12, .inl (k 0, 6, .inl tng12)), (tn_13, .inl (k 0, 6, .inl tng13)), (tn_14, .inl (k 0, 6, .inl tng14))]) [2, 3, 4, 0, 1, 5, 6, 7, 8, 9, 10, 11, 12, 13] rfl, hD.sub (ws' := [(ob, .inr (7, [.int obv0, .int obv1, .ref obc, .ref ob_3, .int obv4, .ref ob_5, .ref ob_6])), (obc, .inr (1, [.ref obc_0, .int L36f3x1, .int L36f3x2])), (obc_0, .inl (k 0, 8, .inl L36a4)), (ob_5, .inl (k 0, 40, .inl L36a0)), (ob_6, .inl (k 0, 4, .inl L36a1)), (tn, .inr (10, [.int tnv0, .int tnv1, .int tnv2, .ref tn_3, .ref tn_4, .ref tn_5, .ref tn_6, .int tnv7, .int tnv8, .ref tn_9, .ref tn_10, .int tnv11, .ref tn_12, .ref tn_13, .ref tn_14, .ref tn_15, .int tnv16, .ref tn_17, .ref tn_18, .ref tnt])), (tn_3, .inl (k 0, 10, .inl tng3)), (tn_4, .inl (k 0, 10, .inl tng4)), (tn_5, .inl (k 0, 10, .inl tng5)), (tn_9, .inl (k 0, 4, .inl tng9)), (tn_10, .inl (k 0, 4, .inl tng10)), (tn_12, .inl (k 0, 6, .inl tng12)), (tn_13, .inl (k 0, 6, .inl tng13)), (tn_14, .inl (k 0, 6, .inl tng14))]) [2, 3, 4, 0, 1, 5, 6, 7, 8, 9, 10, 11, 12, 13] (by decide +kernel) rfl, hS, lv_sub hl [1, 2, 0] rfl⟩
      · skip
        have zh_43 : L36l3.toInt < tnv2.toInt := z_nle h_43
        refine lv_aload_n hx hb dX7_weighClerk_44 rfl (lv_at hl 1 rfl) ?_
        refine lv_iload_n hx hb dX7_weighClerk_45 rfl (lv_at hl 3 rfl) ?_
        obtain ⟨hPc, hDc, hFc⟩ := sub3 hP hD hS hA (ws' := [(tn, .inr (10, [.int tnv0, .int tnv1, .int tnv2, .ref tn_3, .ref tn_4, .ref tn_5, .ref tn_6, .int tnv7, .int tnv8, .ref tn_9, .ref tn_10, .int tnv11, .ref tn_12, .ref tn_13, .ref tn_14, .ref tn_15, .int tnv16, .ref tn_17, .ref tn_18, .ref tnt]))]) [5] (by decide +kernel) rfl
        refine va_calli (va_runS (As := [.ref tn, .int L36l3]) (rest := []) ⟨hx, hb, hml, hown, hts⟩ (c_X7_isOpenIn l D k tn L36l3 tnv0 tnv1 tnv2 tn_3 tn_4 tn_5 tn_6 tnv7 tnv8 tn_9 tn_10 tnv11 tn_12 tn_13 tn_14 tn_15 tnv16 tn_17 tn_18 tnt H.size (show 0 ≤ tnv0.toInt ∧ tnv0.toInt ≤ 8 from by omega) (show 0 ≤ tnv2.toInt ∧ tnv2.toInt ≤ 10 from by omega) (show 0 ≤ tnv8.toInt ∧ tnv8.toInt ≤ 4 from by omega) (show 0 ≤ tnv11.toInt ∧ tnv11.toInt ≤ 6 from by omega) (show 0 ≤ tnv16.toInt ∧ tnv16.toInt ≤ 2 from by omega)) (va_cwS 2 hts (gS tw_5_118 tw_5_119 tw_1_8 tw_5_120) rfl rfl rfl hdS_X7_isOpenIn ⟨Nat.le_of_ble_eq_true rfl, Nat.le_of_ble_eq_true rfl⟩) (cz_S hK hPc hDc hN [.ref tn, .int L36l3]) rfl rfl hl.1 rfl (lv_room (Nat.le_of_ble_eq_true rfl)) dX7_weighClerk_46 ⟨Nat.le_of_ble_eq_true rfl, Nat.le_of_ble_eq_true rfl⟩) hS (fun q _ h => hFc q h) hFc (fun r_45 uZ tZ H1 locs ht hvm hw hB hz1 hk1 hS => ?_)
        obtain ⟨hP1, hK1, hD1⟩ := hB
        rw [ht] at hP1
        obtain ⟨hP, hD⟩ := va_join (wr := [(ob_5, .inl (k 0, 40, .inl L36a0)), (ob_6, .inl (k 0, 4, .inl L36a1)), (ob, .inr (7, [.int obv0, .int obv1, .ref obc, .ref ob_3, .int obv4, .ref ob_5, .ref ob_6])), (obc, .inr (1, [.ref obc_0, .int L36f3x1, .int L36f3x2])), (obc_0, .inl (k 0, 8, .inl L36a4)), (tn_3, .inl (k 0, 10, .inl tng3)), (tn_4, .inl (k 0, 10, .inl tng4)), (tn_5, .inl (k 0, 10, .inl tng5)), (tn_9, .inl (k 0, 4, .inl tng9)), (tn_10, .inl (k 0, 4, .inl tng10)), (tn_12, .inl (k 0, 6, .inl tng12)), (tn_13, .inl (k 0, 6, .inl tng13)), (tn_14, .inl (k 0, 6, .inl tng14))]) (w1 := [(tn, .inr (10, [.int tnv0, .int tnv1, .int tnv2, .ref tn_3, .ref tn_4, .ref tn_5, .ref tn_6, .int tnv7, .int tnv8, .ref tn_9, .ref tn_10, .int tnv11, .ref tn_12, .ref tn_13, .ref tn_14, .ref tn_15, .int tnv16, .ref tn_17, .ref tn_18, .ref tnt]))]) hP hD [5] [0, 1, 2, 3, 4, 6, 7, 8, 9, 10, 11, 12, 13] rfl rfl (by decide +kernel) (by decide +kernel) hk1 hFc hP1 hD1
        clear hK1 hP1 hD1 hPc hDc hFc
        clear hk1 hz1 ht hvm
        have hP : va_P D vwCl [(ob_5, .inl (k 0, 40, .inl L36a0)), (ob_6, .inl (k 0, 4, .inl L36a1)), (ob, .inr (7, [.int obv0, .int obv1, .ref obc, .ref ob_3, .int obv4, .ref ob_5, .ref ob_6])), (obc, .inr (1, [.ref obc_0, .int L36f3x1, .int L36f3x2])), (obc_0, .inl (k 0, 8, .inl L36a4)), (tn_3, .inl (k 0, 10, .inl tng3)), (tn_4, .inl (k 0, 10, .inl tng4)), (tn_5, .inl (k 0, 10, .inl tng5)), (tn_9, .inl (k 0, 4, .inl tng9)), (tn_10, .inl (k 0, 4, .inl tng10)), (tn_12, .inl (k 0, 6, .inl tng12)), (tn_13, .inl (k 0, 6, .inl tng13)), (tn_14, .inl (k 0, 6, .inl tng14)), (tn, .inr (10, [.int tnv0, .int tnv1, .int tnv2, .ref tn_3, .ref tn_4, .ref tn_5, .ref tn_6, .int tnv7, .int tnv8, .ref tn_9, .ref tn_10, .int tnv11, .ref tn_12, .ref tn_13, .ref tn_14, .ref tn_15, .int tnv16, .ref tn_17, .ref tn_18, .ref tnt]))] H1 := hP
        have hD : va_D A [(ob_5, .inl (k 0, 40, .inl L36a0)), (ob_6, .inl (k 0, 4, .inl L36a1)), (ob, .inr (7, [.int obv0, .int obv1, .ref obc, .ref ob_3, .int obv4, .ref ob_5, .ref ob_6])), (obc, .inr (1, [.ref obc_0, .int L36f3x1, .int L36f3x2])), (obc_0, .inl (k 0, 8, .inl L36a4)), (tn_3, .inl (k 0, 10, .inl tng3)), (tn_4, .inl (k 0, 10, .inl tng4)), (tn_5, .inl (k 0, 10, .inl tng5)), (tn_9, .inl (k 0, 4, .inl tng9)), (tn_10, .inl (k 0, 4, .inl tng10)), (tn_12, .inl (k 0, 6, .inl tng12)), (tn_13, .inl (k 0, 6, .inl tng13)), (tn_14, .inl (k 0, 6, .inl tng14)), (tn, .inr (10, [.int tnv0, .int tnv1, .int tnv2, .ref tn_3, .ref tn_4, .ref tn_5, .ref tn_6, .int tnv7, .int tnv8, .ref tn_9, .ref tn_10, .int tnv11, .ref tn_12, .ref tn_13, .ref tn_14, .ref tn_15, .int tnv16, .ref tn_17, .ref tn_18, .ref tnt]))] := hD
        generalize H1 = H at hP hS ⊢
        have hw_46 : (0 ≤ r_45.toInt ∧ r_45.toInt ≤ 1) := hw
        have hw_47 := hw_46
        clear hw
        refine lv_if_eq (tgt := 93) hx hb dX7_weighClerk_49 (by decide) (fun h_48 => ?_) (fun h_48 => ?_)
        · skip
          have zh_48 : r_45.toInt = 0 := z_eq h_48
          obtain ⟨x_49, ex_49⟩ : ∃ y : Int32, y = L36l3 + 1 := ⟨_, rfl⟩
          have zx_49 : x_49.toInt = L36l3.toInt + 1 := by rw [ex_49]; exact z_add rfl rfl (by omega) (by omega)
          refine lv_iinc (v := x_49) (lv' := [(3, .int x_49), (0, .ref ob), (1, .ref tn), (2, .int L2l2)]) hx hb dX7_weighClerk_93 hl (k := 3) rfl (by rw [ex_49]; rfl) (by decide) rfl (fun ls hl => ?_)
          refine lv_goto (tgt := 36) hx hb dX7_weighClerk_96 (by decide) ?_
          exact ih_41 _ _ _ _ (by omega) ⟨x_49, L36a0, L36a1, L36f3x1, L36f3x2, L36a4, rfl, (show 0 ≤ x_49.toInt ∧ x_49.toInt ≤ 10 from by omega), L36a4h0, hP.sub (ws' := [(ob_5, .inl (k 0, 40, .inl L36a0)), (ob_6, .inl (k 0, 4, .inl L36a1)), (ob, .inr (7, [.int obv0, .int obv1, .ref obc, .ref ob_3, .int obv4, .ref ob_5, .ref ob_6])), (obc, .inr (1, [.ref obc_0, .int L36f3x1, .int L36f3x2])), (obc_0, .inl (k 0, 8, .inl L36a4)), (tn, .inr (10, [.int tnv0, .int tnv1, .int tnv2, .ref tn_3, .ref tn_4, .ref tn_5, .ref tn_6, .int tnv7, .int tnv8, .ref tn_9, .ref tn_10, .int tnv11, .ref tn_12, .ref tn_13, .ref tn_14, .ref tn_15, .int tnv16, .ref tn_17, .ref tn_18, .ref tnt])), (tn_3, .inl (k 0, 10, .inl tng3)), (tn_4, .inl (k 0, 10, .inl tng4)), (tn_5, .inl (k 0, 10, .inl tng5)), (tn_9, .inl (k 0, 4, .inl tng9)), (tn_10, .inl (k 0, 4, .inl tng10)), (tn_12, .inl (k 0, 6, .inl tng12)), (tn_13, .inl (k 0, 6, .inl tng13)), (tn_14, .inl (k 0, 6, .inl tng14))]) [0, 1, 2, 3, 4, 13, 5, 6, 7, 8, 9, 10, 11, 12] rfl, hD.sub (ws' := [(ob_5, .inl (k 0, 40, .inl L36a0)), (ob_6, .inl (k 0, 4, .inl L36a1)), (ob, .inr (7, [.int obv0, .int obv1, .ref obc, .ref ob_3, .int obv4, .ref ob_5, .ref ob_6])), (obc, .inr (1, [.ref obc_0, .int L36f3x1, .int L36f3x2])), (obc_0, .inl (k 0, 8, .inl L36a4)), (tn, .inr (10, [.int tnv0, .int tnv1, .int tnv2, .ref tn_3, .ref tn_4, .ref tn_5, .ref tn_6, .int tnv7, .int tnv8, .ref tn_9, .ref tn_10, .int tnv11, .ref tn_12, .ref tn_13, .ref tn_14, .ref tn_15, .int tnv16, .ref tn_17, .ref tn_18, .ref tnt])), (tn_3, .inl (k 0, 10, .inl tng3)), (tn_4, .inl (k 0, 10, .inl tng4)), (tn_5, .inl (k 0, 10, .inl tng5)), (tn_9, .inl (k 0, 4, .inl tng9)), (tn_10, .inl (k 0, 4, .inl tng10)), (tn_12, .inl (k 0, 6, .inl tng12)), (tn_13, .inl (k 0, 6, .inl tng13)), (tn_14, .inl (k 0, 6, .inl tng14))]) [0, 1, 2, 3, 4, 13, 5, 6, 7, 8, 9, 10, 11, 12] (by decide +kernel) rfl, hS, lv_sub hl [1, 2, 3, 0] rfl⟩
        · skip
          have zh_48 : ¬ r_45.toInt = 0 := z_ne h_48
          refine lv_aload_n hx hb dX7_weighClerk_52 rfl (lv_at hl 0 rfl) ?_
          refine lv_aload_n hx hb dX7_weighClerk_53 rfl (lv_at hl 1 rfl) ?_
          refine lv_iload_n hx hb dX7_weighClerk_54 rfl (lv_at hl 2 rfl) ?_
          refine lv_iconst (v := 1) hx hb dX7_weighClerk_55 (by decide) ?_
          refine lv_iload_n hx hb dX7_weighClerk_56 rfl (lv_at hl 3 rfl) ?_
          refine lv_ishl hx hb dX7_weighClerk_57 ?_
          refine lv_topi (fun x_50 ex_50 => ?_)
          have zx_50 : 1 ≤ x_50.toInt ∧ x_50.toInt ≤ 512 := by rw [ex_50]; exact z_shl1 9 512 rfl (by decide) (by omega) (by omega)
          obtain ⟨hPc, hDc, hFc⟩ := sub3 hP hD hS hA (ws' := [(ob, .inr (7, [.int obv0, .int obv1, .ref obc, .ref ob_3, .int obv4, .ref ob_5, .ref ob_6])), (obc, .inr (1, [.ref obc_0, .int L36f3x1, .int L36f3x2])), (obc_0, .inl (k 0, 8, .inl L36a4)), (tn, .inr (10, [.int tnv0, .int tnv1, .int tnv2, .ref tn_3, .ref tn_4, .ref tn_5, .ref tn_6, .int tnv7, .int tnv8, .ref tn_9, .ref tn_10, .int tnv11, .ref tn_12, .ref tn_13, .ref tn_14, .ref tn_15, .int tnv16, .ref tn_17, .ref tn_18, .ref tnt])), (tn_3, .inl (k 0, 10, .inl tng3)), (tn_4, .inl (k 0, 10, .inl tng4)), (tn_5, .inl (k 0, 10, .inl tng5)), (tn_9, .inl (k 0, 4, .inl tng9)), (tn_10, .inl (k 0, 4, .inl tng10)), (tn_12, .inl (k 0, 6, .inl tng12)), (tn_13, .inl (k 0, 6, .inl tng13)), (tn_14, .inl (k 0, 6, .inl tng14))]) [2, 3, 4, 13, 5, 6, 7, 8, 9, 10, 11, 12] (by decide +kernel) rfl
          refine va_calli (va_runV (C := RX7) (As := [.ref tn, .int L2l2, .int x_50]) (rest := []) ⟨hx, hb, hml, hown, hts⟩ (c_X7_gladClerked l D k ob tn L2l2 x_50 obv0 obv1 obc ob_3 obv4 ob_5 ob_6 obc_0 L36f3x1 L36f3x2 L36a4 tnv0 tnv1 tnv2 tn_3 tn_4 tn_5 tn_6 tnv7 tnv8 tn_9 tn_10 tnv11 tn_12 tn_13 tn_14 tn_15 tnv16 tn_17 tn_18 tnt tng3 tng4 tng5 tng9 tng10 tng12 tng13 tng14 H.size (show 0 ≤ L2l2.toInt ∧ L2l2.toInt ≤ 3 from by omega) (show 0 ≤ obv4.toInt ∧ obv4.toInt ≤ 1024 from by omega) L36a4h0 (show 0 ≤ tnv0.toInt ∧ tnv0.toInt ≤ 8 from by omega) (show 0 ≤ tnv2.toInt ∧ tnv2.toInt ≤ 10 from by omega) (show 0 ≤ tnv8.toInt ∧ tnv8.toInt ≤ 4 from by omega) (show 0 ≤ tnv11.toInt ∧ tnv11.toInt ≤ 6 from by omega) (show 0 ≤ tnv16.toInt ∧ tnv16.toInt ≤ 2 from by omega) hp_tng3_0 hp_tng4_0 hp_tng5_0 hp_tng9_0 hp_tng10_0 hp_tng12_0 hp_tng13_0 hp_tng14_0) (cwV 3 hts (gV tw_5_113 tw_5_115 tw_p_32 tw_1_8 tw_5_116) rfl rfl rfl hdV_X7_gladClerked ⟨Nat.le_of_ble_eq_true rfl, Nat.le_of_ble_eq_true rfl⟩) (cz_V hK hPc hDc hN (ci := 7) (q0 := 0) rfl rfl [.ref tn, .int L2l2, .int x_50]) rfl rfl hl.1 rfl (lv_room (Nat.le_of_ble_eq_true rfl)) dX7_weighClerk_58 ⟨Nat.le_of_ble_eq_true rfl, Nat.le_of_ble_eq_true rfl⟩) hS (fun q _ h => hFc q h) hFc (fun r_51 uZ tZ H1 locs ht hvm hw hB hz1 hk1 hS => ?_)
          obtain ⟨o_52, o_53, o_54⟩ := uZ
          obtain ⟨hP1, hK1, hD1⟩ := hB
          rw [ht] at hP1
          obtain ⟨hP, hD⟩ := va_join (wr := [(ob_5, .inl (k 0, 40, .inl L36a0)), (ob_6, .inl (k 0, 4, .inl L36a1))]) (w1 := [(ob, .inr (7, [.int obv0, .int obv1, .ref obc, .ref ob_3, .int obv4, .ref ob_5, .ref ob_6])), (obc, .inr (1, [.ref obc_0, .int o_52, .int o_53])), (obc_0, .inl (k 0, 8, .inl o_54)), (tn, .inr (10, [.int tnv0, .int tnv1, .int tnv2, .ref tn_3, .ref tn_4, .ref tn_5, .ref tn_6, .int tnv7, .int tnv8, .ref tn_9, .ref tn_10, .int tnv11, .ref tn_12, .ref tn_13, .ref tn_14, .ref tn_15, .int tnv16, .ref tn_17, .ref tn_18, .ref tnt])), (tn_3, .inl (k 0, 10, .inl tng3)), (tn_4, .inl (k 0, 10, .inl tng4)), (tn_5, .inl (k 0, 10, .inl tng5)), (tn_9, .inl (k 0, 4, .inl tng9)), (tn_10, .inl (k 0, 4, .inl tng10)), (tn_12, .inl (k 0, 6, .inl tng12)), (tn_13, .inl (k 0, 6, .inl tng13)), (tn_14, .inl (k 0, 6, .inl tng14))]) hP hD [2, 3, 4, 13, 5, 6, 7, 8, 9, 10, 11, 12] [0, 1] rfl rfl (by decide +kernel) (by decide +kernel) hk1 hFc hP1 hD1
          clear hK1 hP1 hD1 hPc hDc hFc
          clear hk1 hz1 ht hvm
          have hP : va_P D vwCl [(ob_5, .inl (k 0, 40, .inl L36a0)), (ob_6, .inl (k 0, 4, .inl L36a1)), (ob, .inr (7, [.int obv0, .int obv1, .ref obc, .ref ob_3, .int obv4, .ref ob_5, .ref ob_6])), (obc, .inr (1, [.ref obc_0, .int o_52, .int o_53])), (obc_0, .inl (k 0, 8, .inl o_54)), (tn, .inr (10, [.int tnv0, .int tnv1, .int tnv2, .ref tn_3, .ref tn_4, .ref tn_5, .ref tn_6, .int tnv7, .int tnv8, .ref tn_9, .ref tn_10, .int tnv11, .ref tn_12, .ref tn_13, .ref tn_14, .ref tn_15, .int tnv16, .ref tn_17, .ref tn_18, .ref tnt])), (tn_3, .inl (k 0, 10, .inl tng3)), (tn_4, .inl (k 0, 10, .inl tng4)), (tn_5, .inl (k 0, 10, .inl tng5)), (tn_9, .inl (k 0, 4, .inl tng9)), (tn_10, .inl (k 0, 4, .inl tng10)), (tn_12, .inl (k 0, 6, .inl tng12)), (tn_13, .inl (k 0, 6, .inl tng13)), (tn_14, .inl (k 0, 6, .inl tng14))] H1 := hP
          have hD : va_D A [(ob_5, .inl (k 0, 40, .inl L36a0)), (ob_6, .inl (k 0, 4, .inl L36a1)), (ob, .inr (7, [.int obv0, .int obv1, .ref obc, .ref ob_3, .int obv4, .ref ob_5, .ref ob_6])), (obc, .inr (1, [.ref obc_0, .int o_52, .int o_53])), (obc_0, .inl (k 0, 8, .inl o_54)), (tn, .inr (10, [.int tnv0, .int tnv1, .int tnv2, .ref tn_3, .ref tn_4, .ref tn_5, .ref tn_6, .int tnv7, .int tnv8, .ref tn_9, .ref tn_10, .int tnv11, .ref tn_12, .ref tn_13, .ref tn_14, .ref tn_15, .int tnv16, .ref tn_17, .ref tn_18, .ref tnt])), (tn_3, .inl (k 0, 10, .inl tng3)), (tn_4, .inl (k 0, 10, .inl tng4)), (tn_5, .inl (k 0, 10, .inl tng5)), (tn_9, .inl (k 0, 4, .inl tng9)), (tn_10, .inl (k 0, 4, .inl tng10)), (tn_12, .inl (k 0, 6, .inl tng12)), (tn_13, .inl (k 0, 6, .inl tng13)), (tn_14, .inl (k 0, 6, .inl tng14))] := hD
          generalize H1 = H at hP hS ⊢
          have hw_55 : (PR 8 1 0 0 1000000 o_54) := hw
          have hw_56 := hw_55
          clear hw
          refine lv_istore (lv' := [(4, .int r_51), (0, .ref ob), (1, .ref tn), (2, .int L2l2), (3, .int L36l3)]) hx hb dX7_weighClerk_61 hl (by decide) rfl (fun ls hl => ?_)
          refine lv_aload_n hx hb dX7_weighClerk_63 rfl (lv_at hl 1 rfl) ?_
          refine va_get (D := D) (ci := 7) (v := .ref ob_5) (C := RX7) (T := TX7) (N := 7) hx hb hts iT_X7 hown hK hP 2 rfl rfl 5 (by decide) (hts _ tw_2_71) (fun _ h9 => h9) rfl dX7_weighClerk_64 ?_
          refine lv_iload_n hx hb dX7_weighClerk_67 rfl (lv_at hl 3 rfl) ?_
          refine lv_bipush (v := 10) hx hb dX7_weighClerk_68 (by decide) ?_
          refine lv_imul hx hb dX7_weighClerk_70 ?_
          refine lv_topi (fun x_57 ex_57 => ?_)
          have zx_57 : x_57.toInt = L2l2.toInt * 10 := by rw [ex_57]; exact z_mul rfl rfl (by omega) (by omega)
          refine lv_iload_n hx hb dX7_weighClerk_71 rfl (lv_at hl 4 rfl) ?_
          refine lv_iadd hx hb dX7_weighClerk_72 ?_
          refine lv_topi (fun x_58 ex_58 => ?_)
          have zx_58 : x_58.toInt = x_57.toInt + L36l3.toInt := by rw [ex_58]; exact z_add rfl rfl (by omega) (by omega)
          refine lv_iload hx hb dX7_weighClerk_73 (lv_at hl 0 rfl) ?_
          refine va_iast hx hb hK hP hD hS 0 0 rfl rfl (z_in (by omega) (by omega)) dX7_weighClerk_75 (fun H locs hP hD hS => ?_)
          obtain ⟨g_59, eg_59⟩ : ∃ z : Nat → Int32, upd L36a0 x_58.toNatClampNeg r_51 = z := ⟨_, rfl⟩
          have hP : va_P D vwCl [(ob_5, .inl (k 0, 40, .inl (upd L36a0 x_58.toNatClampNeg r_51))), (ob_6, .inl (k 0, 4, .inl L36a1)), (ob, .inr (7, [.int obv0, .int obv1, .ref obc, .ref ob_3, .int obv4, .ref ob_5, .ref ob_6])), (obc, .inr (1, [.ref obc_0, .int o_52, .int o_53])), (obc_0, .inl (k 0, 8, .inl o_54)), (tn, .inr (10, [.int tnv0, .int tnv1, .int tnv2, .ref tn_3, .ref tn_4, .ref tn_5, .ref tn_6, .int tnv7, .int tnv8, .ref tn_9, .ref tn_10, .int tnv11, .ref tn_12, .ref tn_13, .ref tn_14, .ref tn_15, .int tnv16, .ref tn_17, .ref tn_18, .ref tnt])), (tn_3, .inl (k 0, 10, .inl tng3)), (tn_4, .inl (k 0, 10, .inl tng4)), (tn_5, .inl (k 0, 10, .inl tng5)), (tn_9, .inl (k 0, 4, .inl tng9)), (tn_10, .inl (k 0, 4, .inl tng10)), (tn_12, .inl (k 0, 6, .inl tng12)), (tn_13, .inl (k 0, 6, .inl tng13)), (tn_14, .inl (k 0, 6, .inl tng14))] H := hP
          have hD : va_D A [(ob_5, .inl (k 0, 40, .inl (upd L36a0 x_58.toNatClampNeg r_51))), (ob_6, .inl (k 0, 4, .inl L36a1)), (ob, .inr (7, [.int obv0, .int obv1, .ref obc, .ref ob_3, .int obv4, .ref ob_5, .ref ob_6])), (obc, .inr (1, [.ref obc_0, .int o_52, .int o_53])), (obc_0, .inl (k 0, 8, .inl o_54)), (tn, .inr (10, [.int tnv0, .int tnv1, .int tnv2, .ref tn_3, .ref tn_4, .ref tn_5, .ref tn_6, .int tnv7, .int tnv8, .ref tn_9, .ref tn_10, .int tnv11, .ref tn_12, .ref tn_13, .ref tn_14, .ref tn_15, .int tnv16, .ref tn_17, .ref tn_18, .ref tnt])), (tn_3, .inl (k 0, 10, .inl tng3)), (tn_4, .inl (k 0, 10, .inl tng4)), (tn_5, .inl (k 0, 10, .inl tng5)), (tn_9, .inl (k 0, 4, .inl tng9)), (tn_10, .inl (k 0, 4, .inl tng10)), (tn_12, .inl (k 0, 6, .inl tng12)), (tn_13, .inl (k 0, 6, .inl tng13)), (tn_14, .inl (k 0, 6, .inl tng14))] := hD
          rw [eg_59] at hP hD
          refine lv_aload_n hx hb dX7_weighClerk_76 rfl (lv_at hl 1 rfl) ?_
          refine va_get (D := D) (ci := 7) (v := .ref ob_6) (C := RX7) (T := TX7) (N := 7) hx hb hts iT_X7 hown hK hP 2 rfl rfl 6 (by decide) (hts _ tw_2_72) (fun _ h9 => h9) rfl dX7_weighClerk_77 ?_
          refine lv_iload_n hx hb dX7_weighClerk_80 rfl (lv_at hl 3 rfl) ?_
          refine lv_aload_n hx hb dX7_weighClerk_81 rfl (lv_at hl 1 rfl) ?_
          refine va_get (D := D) (ci := 7) (v := .ref ob_6) (C := RX7) (T := TX7) (N := 7) hx hb hts iT_X7 hown hK hP 2 rfl rfl 6 (by decide) (hts _ tw_2_72) (fun _ h9 => h9) rfl dX7_weighClerk_82 ?_
          refine lv_iload_n hx hb dX7_weighClerk_85 rfl (lv_at hl 3 rfl) ?_
          refine va_iald hx hb hK hP 1 0 rfl rfl (z_in (by omega) (by omega)) dX7_weighClerk_86 ?_
          refine lv_topi (fun x_60 ex_60 => ?_)
          refine lv_iload hx hb dX7_weighClerk_87 (lv_at hl 0 rfl) ?_
          obtain ⟨hPc, hDc, hFc⟩ := sub3 hP hD hS hA (ws' := []) [] (by decide +kernel) rfl
          refine va_calli (va_runS (As := [.int x_60, .int r_51]) (rest := [.int L2l2, .ref ob_6]) ⟨hx, hb, hml, hown, hts⟩ (c_J9_max_7cf53 l D k x_60 r_51 H.size) (va_cwS 2 hts (gS tw_5_121 tw_4_11 tw_1_14 tw_4_12) rfl rfl rfl hdS_J9_max_7cf53 ⟨Nat.le_of_ble_eq_true rfl, Nat.le_of_ble_eq_true rfl⟩) (cz_S hK hPc hDc hN [.int x_60, .int r_51]) rfl rfl hl.1 rfl (lv_room (Nat.le_of_ble_eq_true rfl)) dX7_weighClerk_89 ⟨Nat.le_of_ble_eq_true rfl, Nat.le_of_ble_eq_true rfl⟩) hS (fun q _ h => hFc q h) hFc (fun r_61 uZ tZ H1 locs ht hvm hw hB hz1 hk1 hS => ?_)
          obtain ⟨hP1, hK1, hD1⟩ := hB
          rw [ht] at hP1
          obtain ⟨hP, hD⟩ := va_join (wr := [(ob_5, .inl (k 0, 40, .inl g_59)), (ob_6, .inl (k 0, 4, .inl L36a1)), (ob, .inr (7, [.int obv0, .int obv1, .ref obc, .ref ob_3, .int obv4, .ref ob_5, .ref ob_6])), (obc, .inr (1, [.ref obc_0, .int o_52, .int o_53])), (obc_0, .inl (k 0, 8, .inl o_54)), (tn, .inr (10, [.int tnv0, .int tnv1, .int tnv2, .ref tn_3, .ref tn_4, .ref tn_5, .ref tn_6, .int tnv7, .int tnv8, .ref tn_9, .ref tn_10, .int tnv11, .ref tn_12, .ref tn_13, .ref tn_14, .ref tn_15, .int tnv16, .ref tn_17, .ref tn_18, .ref tnt])), (tn_3, .inl (k 0, 10, .inl tng3)), (tn_4, .inl (k 0, 10, .inl tng4)), (tn_5, .inl (k 0, 10, .inl tng5)), (tn_9, .inl (k 0, 4, .inl tng9)), (tn_10, .inl (k 0, 4, .inl tng10)), (tn_12, .inl (k 0, 6, .inl tng12)), (tn_13, .inl (k 0, 6, .inl tng13)), (tn_14, .inl (k 0, 6, .inl tng14))]) (w1 := []) hP hD [] [0, 1, 2, 3, 4, 5, 6, 7, 8, 9, 10, 11, 12, 13] rfl rfl (by decide +kernel) (by decide +kernel) hk1 hFc hP1 hD1
          clear hK1 hP1 hD1 hPc hDc hFc
          clear hk1 hz1 ht hvm
          have hP : va_P D vwCl [(ob_5, .inl (k 0, 40, .inl g_59)), (ob_6, .inl (k 0, 4, .inl L36a1)), (ob, .inr (7, [.int obv0, .int obv1, .ref obc, .ref ob_3, .int obv4, .ref ob_5, .ref ob_6])), (obc, .inr (1, [.ref obc_0, .int o_52, .int o_53])), (obc_0, .inl (k 0, 8, .inl o_54)), (tn, .inr (10, [.int tnv0, .int tnv1, .int tnv2, .ref tn_3, .ref tn_4, .ref tn_5, .ref tn_6, .int tnv7, .int tnv8, .ref tn_9, .ref tn_10, .int tnv11, .ref tn_12, .ref tn_13, .ref tn_14, .ref tn_15, .int tnv16, .ref tn_17, .ref tn_18, .ref tnt])), (tn_3, .inl (k 0, 10, .inl tng3)), (tn_4, .inl (k 0, 10, .inl tng4)), (tn_5, .inl (k 0, 10, .inl tng5)), (tn_9, .inl (k 0, 4, .inl tng9)), (tn_10, .inl (k 0, 4, .inl tng10)), (tn_12, .inl (k 0, 6, .inl tng12)), (tn_13, .inl (k 0, 6, .inl tng13)), (tn_14, .inl (k 0, 6, .inl tng14))] H1 := hP
          have hD : va_D A [(ob_5, .inl (k 0, 40, .inl g_59)), (ob_6, .inl (k 0, 4, .inl L36a1)), (ob, .inr (7, [.int obv0, .int obv1, .ref obc, .ref ob_3, .int obv4, .ref ob_5, .ref ob_6])), (obc, .inr (1, [.ref obc_0, .int o_52, .int o_53])), (obc_0, .inl (k 0, 8, .inl o_54)), (tn, .inr (10, [.int tnv0, .int tnv1, .int tnv2, .ref tn_3, .ref tn_4, .ref tn_5, .ref tn_6, .int tnv7, .int tnv8, .ref tn_9, .ref tn_10, .int tnv11, .ref tn_12, .ref tn_13, .ref tn_14, .ref tn_15, .int tnv16, .ref tn_17, .ref tn_18, .ref tnt])), (tn_3, .inl (k 0, 10, .inl tng3)), (tn_4, .inl (k 0, 10, .inl tng4)), (tn_5, .inl (k 0, 10, .inl tng5)), (tn_9, .inl (k 0, 4, .inl tng9)), (tn_10, .inl (k 0, 4, .inl tng10)), (tn_12, .inl (k 0, 6, .inl tng12)), (tn_13, .inl (k 0, 6, .inl tng13)), (tn_14, .inl (k 0, 6, .inl tng14))] := hD
          generalize H1 = H at hP hS ⊢
          have hw_62 : (x_60.toInt ≤ r_61.toInt ∧ r_51.toInt ≤ r_61.toInt ∧ (r_61.toInt = x_60.toInt ∨ r_61.toInt = r_51.toInt)) := hw
          have hw_63 := hw_62
          clear hw
          refine va_iast hx hb hK hP hD hS 1 0 rfl rfl (z_in (by omega) (by omega)) dX7_weighClerk_92 (fun H locs hP hD hS => ?_)
          obtain ⟨g_64, eg_64⟩ : ∃ z : Nat → Int32, upd L36a1 L2l2.toNatClampNeg r_61 = z := ⟨_, rfl⟩
          have hP : va_P D vwCl [(ob_5, .inl (k 0, 40, .inl g_59)), (ob_6, .inl (k 0, 4, .inl (upd L36a1 L2l2.toNatClampNeg r_61))), (ob, .inr (7, [.int obv0, .int obv1, .ref obc, .ref ob_3, .int obv4, .ref ob_5, .ref ob_6])), (obc, .inr (1, [.ref obc_0, .int o_52, .int o_53])), (obc_0, .inl (k 0, 8, .inl o_54)), (tn, .inr (10, [.int tnv0, .int tnv1, .int tnv2, .ref tn_3, .ref tn_4, .ref tn_5, .ref tn_6, .int tnv7, .int tnv8, .ref tn_9, .ref tn_10, .int tnv11, .ref tn_12, .ref tn_13, .ref tn_14, .ref tn_15, .int tnv16, .ref tn_17, .ref tn_18, .ref tnt])), (tn_3, .inl (k 0, 10, .inl tng3)), (tn_4, .inl (k 0, 10, .inl tng4)), (tn_5, .inl (k 0, 10, .inl tng5)), (tn_9, .inl (k 0, 4, .inl tng9)), (tn_10, .inl (k 0, 4, .inl tng10)), (tn_12, .inl (k 0, 6, .inl tng12)), (tn_13, .inl (k 0, 6, .inl tng13)), (tn_14, .inl (k 0, 6, .inl tng14))] H := hP
          have hD : va_D A [(ob_5, .inl (k 0, 40, .inl g_59)), (ob_6, .inl (k 0, 4, .inl (upd L36a1 L2l2.toNatClampNeg r_61))), (ob, .inr (7, [.int obv0, .int obv1, .ref obc, .ref ob_3, .int obv4, .ref ob_5, .ref ob_6])), (obc, .inr (1, [.ref obc_0, .int o_52, .int o_53])), (obc_0, .inl (k 0, 8, .inl o_54)), (tn, .inr (10, [.int tnv0, .int tnv1, .int tnv2, .ref tn_3, .ref tn_4, .ref tn_5, .ref tn_6, .int tnv7, .int tnv8, .ref tn_9, .ref tn_10, .int tnv11, .ref tn_12, .ref tn_13, .ref tn_14, .ref tn_15, .int tnv16, .ref tn_17, .ref tn_18, .ref tnt])), (tn_3, .inl (k 0, 10, .inl tng3)), (tn_4, .inl (k 0, 10, .inl tng4)), (tn_5, .inl (k 0, 10, .inl tng5)), (tn_9, .inl (k 0, 4, .inl tng9)), (tn_10, .inl (k 0, 4, .inl tng10)), (tn_12, .inl (k 0, 6, .inl tng12)), (tn_13, .inl (k 0, 6, .inl tng13)), (tn_14, .inl (k 0, 6, .inl tng14))] := hD
          rw [eg_64] at hP hD
          obtain ⟨x_65, ex_65⟩ : ∃ y : Int32, y = L36l3 + 1 := ⟨_, rfl⟩
          have zx_65 : x_65.toInt = L36l3.toInt + 1 := by rw [ex_65]; exact z_add rfl rfl (by omega) (by omega)
          refine lv_iinc (v := x_65) (lv' := [(3, .int x_65), (4, .int r_51), (0, .ref ob), (1, .ref tn), (2, .int L2l2)]) hx hb dX7_weighClerk_93 hl (k := 4) rfl (by rw [ex_65]; rfl) (by decide) rfl (fun ls hl => ?_)
          refine lv_goto (tgt := 36) hx hb dX7_weighClerk_96 (by decide) ?_
          exact ih_41 _ _ _ _ (by omega) ⟨x_65, g_59, g_64, o_52, o_53, o_54, rfl, (show 0 ≤ x_65.toInt ∧ x_65.toInt ≤ 10 from by omega), hw_56, hP.sub (ws' := [(ob_5, .inl (k 0, 40, .inl g_59)), (ob_6, .inl (k 0, 4, .inl g_64)), (ob, .inr (7, [.int obv0, .int obv1, .ref obc, .ref ob_3, .int obv4, .ref ob_5, .ref ob_6])), (obc, .inr (1, [.ref obc_0, .int o_52, .int o_53])), (obc_0, .inl (k 0, 8, .inl o_54)), (tn, .inr (10, [.int tnv0, .int tnv1, .int tnv2, .ref tn_3, .ref tn_4, .ref tn_5, .ref tn_6, .int tnv7, .int tnv8, .ref tn_9, .ref tn_10, .int tnv11, .ref tn_12, .ref tn_13, .ref tn_14, .ref tn_15, .int tnv16, .ref tn_17, .ref tn_18, .ref tnt])), (tn_3, .inl (k 0, 10, .inl tng3)), (tn_4, .inl (k 0, 10, .inl tng4)), (tn_5, .inl (k 0, 10, .inl tng5)), (tn_9, .inl (k 0, 4, .inl tng9)), (tn_10, .inl (k 0, 4, .inl tng10)), (tn_12, .inl (k 0, 6, .inl tng12)), (tn_13, .inl (k 0, 6, .inl tng13)), (tn_14, .inl (k 0, 6, .inl tng14))]) [0, 1, 2, 3, 4, 5, 6, 7, 8, 9, 10, 11, 12, 13] rfl, hD.sub (ws' := [(ob_5, .inl (k 0, 40, .inl g_59)), (ob_6, .inl (k 0, 4, .inl g_64)), (ob, .inr (7, [.int obv0, .int obv1, .ref obc, .ref ob_3, .int obv4, .ref ob_5, .ref ob_6])), (obc, .inr (1, [.ref obc_0, .int o_52, .int o_53])), (obc_0, .inl (k 0, 8, .inl o_54)), (tn, .inr (10, [.int tnv0, .int tnv1, .int tnv2, .ref tn_3, .ref tn_4, .ref tn_5, .ref tn_6, .int tnv7, .int tnv8, .ref tn_9, .ref tn_10, .int tnv11, .ref tn_12, .ref tn_13, .ref tn_14, .ref tn_15, .int tnv16, .ref tn_17, .ref tn_18, .ref tnt])), (tn_3, .inl (k 0, 10, .inl tng3)), (tn_4, .inl (k 0, 10, .inl tng4)), (tn_5, .inl (k 0, 10, .inl tng5)), (tn_9, .inl (k 0, 4, .inl tng9)), (tn_10, .inl (k 0, 4, .inl tng10)), (tn_12, .inl (k 0, 6, .inl tng12)), (tn_13, .inl (k 0, 6, .inl tng13)), (tn_14, .inl (k 0, 6, .inl tng14))]) [0, 1, 2, 3, 4, 5, 6, 7, 8, 9, 10, 11, 12, 13] (by decide +kernel) rfl, hS, lv_sub hl [2, 3, 4, 0] rfl⟩
set_option maxHeartbeats 4000000 in
set_option maxRecDepth 100000 in
theorem c_X7_pairRests (l : Launch) (D : va_G) (k : Nat → ClassId) (ob : Nat) (tn : Nat) (p1 : Int32) (p2 : Int32) (obv0 : Int32) (obv1 : Int32) (obc : Nat) (ob_3 : Nat) (obv4 : Int32) (ob_5 : Nat) (ob_6 : Nat) (obg5 : Nat → Int32) (obg6 : Nat → Int32) (tnv0 : Int32) (tnv1 : Int32) (tnv2 : Int32) (tn_3 : Nat) (tn_4 : Nat) (tn_5 : Nat) (tn_6 : Nat) (tnv7 : Int32) (tnv8 : Int32) (tn_9 : Nat) (tn_10 : Nat) (tnv11 : Int32) (tn_12 : Nat) (tn_13 : Nat) (tn_14 : Nat) (tn_15 : Nat) (tnv16 : Int32) (tn_17 : Nat) (tn_18 : Nat) (tnt : Nat) (sz : Nat) (h_p1 : 0 ≤ p1.toInt ∧ p1.toInt ≤ 3) (h_p2 : 0 ≤ p2.toInt ∧ p2.toInt ≤ 9) (h_obv4 : 0 ≤ obv4.toInt ∧ obv4.toInt ≤ 1024) (h_tnv0 : 0 ≤ tnv0.toInt ∧ tnv0.toInt ≤ 8) (h_tnv2 : 0 ≤ tnv2.toInt ∧ tnv2.toInt ≤ 10) (h_tnv8 : 0 ≤ tnv8.toInt ∧ tnv8.toInt ≤ 4) (h_tnv11 : 0 ≤ tnv11.toInt ∧ tnv11.toInt ≤ 6) (h_tnv16 : 0 ≤ tnv16.toInt ∧ tnv16.toInt ≤ 2) : Met l yX7_pairRests (ww yX7_pairRests cX7_pairRests 6 (some .boolean)) ({ frames := 0, cells := 0, slots := 0, locals := 0 }) (Pre0 D k [(ob, .inr (7, [.int obv0, .int obv1, .ref obc, .ref ob_3, .int obv4, .ref ob_5, .ref ob_6])), (ob_5, .inl (k 0, 40, .inl obg5)), (ob_6, .inl (k 0, 4, .inl obg6)), (tn, .inr (10, [.int tnv0, .int tnv1, .int tnv2, .ref tn_3, .ref tn_4, .ref tn_5, .ref tn_6, .int tnv7, .int tnv8, .ref tn_9, .ref tn_10, .int tnv11, .ref tn_12, .ref tn_13, .ref tn_14, .ref tn_15, .int tnv16, .ref tn_17, .ref tn_18, .ref tnt]))] sz [.ref ob, .ref tn, .int p1, .int p2]) (va_Qi (fun (r : Int32) (_ : Unit) => (0 ≤ r.toInt ∧ r.toInt ≤ 1)) (fun (_ : Unit) tZ => Bw D k (va_A [(ob, .inr (7, [.int obv0, .int obv1, .ref obc, .ref ob_3, .int obv4, .ref ob_5, .ref ob_6])), (ob_5, .inl (k 0, 40, .inl obg5)), (ob_6, .inl (k 0, 4, .inl obg6)), (tn, .inr (10, [.int tnv0, .int tnv1, .int tnv2, .ref tn_3, .ref tn_4, .ref tn_5, .ref tn_6, .int tnv7, .int tnv8, .ref tn_9, .ref tn_10, .int tnv11, .ref tn_12, .ref tn_13, .ref tn_14, .ref tn_15, .int tnv16, .ref tn_17, .ref tn_18, .ref tnt]))] sz) [(ob, .inr (7, [.int obv0, .int obv1, .ref obc, .ref ob_3, .int obv4, .ref ob_5, .ref ob_6])), (ob_5, .inl (k 0, 40, .inl obg5)), (ob_6, .inl (k 0, 4, .inl obg6)), (tn, .inr (10, [.int tnv0, .int tnv1, .int tnv2, .ref tn_3, .ref tn_4, .ref tn_5, .ref tn_6, .int tnv7, .int tnv8, .ref tn_9, .ref tn_10, .int tnv11, .ref tn_12, .ref tn_13, .ref tn_14, .ref tn_15, .int tnv16, .ref tn_17, .ref tn_18, .ref tnt]))] tZ) (va_A [(ob, .inr (7, [.int obv0, .int obv1, .ref obc, .ref ob_3, .int obv4, .ref ob_5, .ref ob_6])), (ob_5, .inl (k 0, 40, .inl obg5)), (ob_6, .inl (k 0, 4, .inl obg6)), (tn, .inr (10, [.int tnv0, .int tnv1, .int tnv2, .ref tn_3, .ref tn_4, .ref tn_5, .ref tn_6, .int tnv7, .int tnv8, .ref tn_9, .ref tn_10, .int tnv11, .ref tn_12, .ref tn_13, .ref tn_14, .ref tn_15, .int tnv16, .ref tn_17, .ref tn_18, .ref tnt]))] sz)) 0 0 (va_A [(ob, .inr (7, [.int obv0, .int obv1, .ref obc, .ref ob_3, .int obv4, .ref ob_5, .ref ob_6])), (ob_5, .inl (k 0, 40, .inl obg5)), (ob_6, .inl (k 0, 4, .inl obg6)), (tn, .inr (10, [.int tnv0, .int tnv1, .int tnv2, .ref tn_3, .ref tn_4, .ref tn_5, .ref tn_6, .int tnv7, .int tnv8, .ref tn_9, .ref tn_10, .int tnv11, .ref tn_12, .ref tn_13, .ref tn_14, .ref tn_15, .int tnv16, .ref tn_17, .ref tn_18, .ref tnt]))] sz) := by
  refine Met.ofW (cc := cX7_pairRests) (maxL := 6) (ret := (some .boolean)) (by decide +kernel) rfl ?_
  intro p e s m args below meth c s₁ B hml hv
  obtain ⟨rfl, hsz, hP, hK, hD0, hN⟩ := hv
  have hx := B.exec
  have hb := B.bytes
  have hr := B.returns
  have hts : ∀ w ∈ TT, w.before _ s = true := fun w h => atoms_spec (ws := ww yX7_pairRests cX7_pairRests 6 (some .boolean)) B.pre w (List.mem_cons_of_mem _ h)
  have hown : s.vm.findClass RX7 = some m.cls := findClass_of_methodNamed B.named
  have hlocks := B.notSynchronized
  subst hsz
  have hD := hD0.self (sz := s.heap.size)
  generalize hAe : va_A [(ob, .inr (7, [.int obv0, .int obv1, .ref obc, .ref ob_3, .int obv4, .ref ob_5, .ref ob_6])), (ob_5, .inl (k 0, 40, .inl obg5)), (ob_6, .inl (k 0, 4, .inl obg6)), (tn, .inr (10, [.int tnv0, .int tnv1, .int tnv2, .ref tn_3, .ref tn_4, .ref tn_5, .ref tn_6, .int tnv7, .int tnv8, .ref tn_9, .ref tn_10, .int tnv11, .ref tn_12, .ref tn_13, .ref tn_14, .ref tn_15, .int tnv16, .ref tn_17, .ref tn_18, .ref tnt]))] s.heap.size = A at hD ⊢
  have hA : ∀ q : Nat, s.heap.size ≤ q → A q := fun q h => by rw [← hAe]; exact Or.inr h
  have hS : va_S A s.heap s.heap [] := va_S.rf
  have hl := lv_entry ([.ref ob, .ref tn, .int p1, .int p2]) (n := 6) (Nat.le_of_ble_eq_true rfl)
  rw [lg_entry_eq]
  generalize (lg_sl ([.ref ob, .ref tn, .int p1, .int p2]) ++ List.replicate (6 - (lg_sl ([.ref ob, .ref tn, .int p1, .int p2])).length) Slot.unset).toArray = ls at hl ⊢
  have hl : lv_has ls 6 [(0, .ref ob), (1, .ref tn), (2, .int p1), (3, .int p2)] := hl
  refine lv_aload_n hx hb dX7_pairRests_0 rfl (lv_at hl 0 rfl) ?_
  refine va_get (D := D) (ci := 7) (v := .ref ob_5) (C := RX7) (T := TX7) (N := 7) hx hb hts iT_X7 hown hK hP 0 rfl rfl 5 (by decide) (hts _ tw_2_71) (fun _ h9 => h9) rfl dX7_pairRests_1 ?_
  refine lv_iload_n hx hb dX7_pairRests_4 rfl (lv_at hl 2 rfl) ?_
  refine lv_bipush (v := 10) hx hb dX7_pairRests_5 (by decide) ?_
  refine lv_imul hx hb dX7_pairRests_7 ?_
  refine lv_topi (fun x_1 ex_1 => ?_)
  have zx_1 : x_1.toInt = p1.toInt * 10 := by rw [ex_1]; exact z_mul rfl rfl (by omega) (by omega)
  refine lv_iload_n hx hb dX7_pairRests_8 rfl (lv_at hl 3 rfl) ?_
  refine lv_iadd hx hb dX7_pairRests_9 ?_
  refine lv_topi (fun x_2 ex_2 => ?_)
  have zx_2 : x_2.toInt = x_1.toInt + p2.toInt := by rw [ex_2]; exact z_add rfl rfl (by omega) (by omega)
  refine va_iald hx hb hK hP 1 0 rfl rfl (z_in (by omega) (by omega)) dX7_pairRests_10 ?_
  refine lv_topi (fun x_3 ex_3 => ?_)
  refine lv_istore (lv' := [(4, .int x_3), (0, .ref ob), (1, .ref tn), (2, .int p1), (3, .int p2)]) hx hb dX7_pairRests_11 hl (by decide) rfl (fun ls hl => ?_)
  refine lv_iconst (v := 0) hx hb dX7_pairRests_13 (by decide) ?_
  refine lv_istore (lv' := [(5, .int 0), (4, .int x_3), (0, .ref ob), (1, .ref tn), (2, .int p1), (3, .int p2)]) hx hb dX7_pairRests_14 hl (by decide) rfl (fun ls hl => ?_)
  refine loop_r (Wg := fun H locs ls => W p l e _ s m _ below meth c H locs _ _ _ (F0 m 16 ls [])) (fun n9 H locs ls => ∃ (L16l5 : Int32), n9 = (4 - L16l5.toInt).toNat ∧ (0 ≤ L16l5.toInt ∧ L16l5.toInt ≤ 4) ∧ va_P D vwCl [(ob, .inr (7, [.int obv0, .int obv1, .ref obc, .ref ob_3, .int obv4, .ref ob_5, .ref ob_6])), (ob_5, .inl (k 0, 40, .inl obg5)), (ob_6, .inl (k 0, 4, .inl obg6)), (tn, .inr (10, [.int tnv0, .int tnv1, .int tnv2, .ref tn_3, .ref tn_4, .ref tn_5, .ref tn_6, .int tnv7, .int tnv8, .ref tn_9, .ref tn_10, .int tnv11, .ref tn_12, .ref tn_13, .ref tn_14, .ref tn_15, .int tnv16, .ref tn_17, .ref tn_18, .ref tnt]))] H ∧ va_D A [(ob, .inr (7, [.int obv0, .int obv1, .ref obc, .ref ob_3, .int obv4, .ref ob_5, .ref ob_6])), (ob_5, .inl (k 0, 40, .inl obg5)), (ob_6, .inl (k 0, 4, .inl obg6)), (tn, .inr (10, [.int tnv0, .int tnv1, .int tnv2, .ref tn_3, .ref tn_4, .ref tn_5, .ref tn_6, .int tnv7, .int tnv8, .ref tn_9, .ref tn_10, .int tnv11, .ref tn_12, .ref tn_13, .ref tn_14, .ref tn_15, .int tnv16, .ref tn_17, .ref tn_18, .ref tnt]))] ∧ va_S A s.heap H locs ∧ lv_has ls 6 [(0, .ref ob), (1, .ref tn), (2, .int p1), (3, .int p2), (4, .int x_3), (5, .int L16l5)]) (fun n9 H locs ls hI ih_4 => ?_) _ _ _ _ ⟨0, rfl, (show 0 ≤ 0 ∧ 0 ≤ 4 from by omega), hP.sub (ws' := [(ob, .inr (7, [.int obv0, .int obv1, .ref obc, .ref ob_3, .int obv4, .ref ob_5, .ref ob_6])), (ob_5, .inl (k 0, 40, .inl obg5)), (ob_6, .inl (k 0, 4, .inl obg6)), (tn, .inr (10, [.int tnv0, .int tnv1, .int tnv2, .ref tn_3, .ref tn_4, .ref tn_5, .ref tn_6, .int tnv7, .int tnv8, .ref tn_9, .ref tn_10, .int tnv11, .ref tn_12, .ref tn_13, .ref tn_14, .ref tn_15, .int tnv16, .ref tn_17, .ref tn_18, .ref tnt]))]) [0, 1, 2, 3] rfl, hD.sub (ws' := [(ob, .inr (7, [.int obv0, .int obv1, .ref obc, .ref ob_3, .int obv4, .ref ob_5, .ref ob_6])), (ob_5, .inl (k 0, 40, .inl obg5)), (ob_6, .inl (k 0, 4, .inl obg6)), (tn, .inr (10, [.int tnv0, .int tnv1, .int tnv2, .ref tn_3, .ref tn_4, .ref tn_5, .ref tn_6, .int tnv7, .int tnv8, .ref tn_9, .ref tn_10, .int tnv11, .ref tn_12, .ref tn_13, .ref tn_14, .ref tn_15, .int tnv16, .ref tn_17, .ref tn_18, .ref tnt]))]) [0, 1, 2, 3] (by decide +kernel) rfl, hS, lv_sub hl [2, 3, 4, 5, 1, 0] rfl⟩
  clear hP hD hS hl
  obtain ⟨L16l5, en_5, zL16l5, hP, hD, hS, hl⟩ := hI
  refine lv_iload hx hb dX7_pairRests_16 (lv_at hl 5 rfl) ?_
  refine lv_aload_n hx hb dX7_pairRests_18 rfl (lv_at hl 1 rfl) ?_
  refine va_get (D := D) (ci := 10) (v := .int tnv8) (C := RX10) (T := TX10) (N := 20) hx hb hts iT_X10 hown hK hP 3 rfl rfl 8 (by decide) (hts _ tw_1_107) (fun _ h9 => h9) rfl dX7_pairRests_19 ?_
  refine lv_icmp_ge (tgt := 50) hx hb dX7_pairRests_22 (by decide) (fun h_6 => ?_) (fun h_6 => ?_)
  · skip
    have zh_6 : tnv8.toInt ≤ L16l5.toInt := z_le h_6
    refine lv_iload hx hb dX7_pairRests_50 (lv_at hl 4 rfl) ?_
    refine lv_aload_n hx hb dX7_pairRests_52 rfl (lv_at hl 0 rfl) ?_
    refine va_get (D := D) (ci := 7) (v := .ref ob_6) (C := RX7) (T := TX7) (N := 7) hx hb hts iT_X7 hown hK hP 0 rfl rfl 6 (by decide) (hts _ tw_2_72) (fun _ h9 => h9) rfl dX7_pairRests_53 ?_
    refine lv_iload_n hx hb dX7_pairRests_56 rfl (lv_at hl 2 rfl) ?_
    refine va_iald hx hb hK hP 2 0 rfl rfl (z_in (by omega) (by omega)) dX7_pairRests_57 ?_
    refine lv_topi (fun x_7 ex_7 => ?_)
    refine lv_icmp_lt (tgt := 65) hx hb dX7_pairRests_58 (by decide) (fun h_8 => ?_) (fun h_8 => ?_)
    · skip
      have zh_8 : x_3.toInt < x_7.toInt := z_lt h_8
      refine lv_iconst (v := 0) hx hb dX7_pairRests_65 (by decide) ?_
      obtain ⟨hP9, hD9⟩ := sub2 hP hD (ws' := [(ob, .inr (7, [.int obv0, .int obv1, .ref obc, .ref ob_3, .int obv4, .ref ob_5, .ref ob_6])), (ob_5, .inl (k 0, 40, .inl obg5)), (ob_6, .inl (k 0, 4, .inl obg6)), (tn, .inr (10, [.int tnv0, .int tnv1, .int tnv2, .ref tn_3, .ref tn_4, .ref tn_5, .ref tn_6, .int tnv7, .int tnv8, .ref tn_9, .ref tn_10, .int tnv11, .ref tn_12, .ref tn_13, .ref tn_14, .ref tn_15, .int tnv16, .ref tn_17, .ref tn_18, .ref tnt]))]) [0, 1, 2, 3] (by decide +kernel) rfl
      exact W.zret (v := 0) hx hb hr (by decide) (fun tZ ht hW => ⟨⟨0, (), rfl, (show 0 ≤ 0 ∧ 0 ≤ 1 from by omega), by rw [ht]; exact hP9, va_K.moved hW.alike hK, hD9⟩, hS.F ht⟩) hS.2.2 dX7_pairRests_66
    · skip
      have zh_8 : x_7.toInt ≤ x_3.toInt := z_nlt h_8
      refine lv_iconst (v := 1) hx hb dX7_pairRests_61 (by decide) ?_
      refine lv_goto (tgt := 66) hx hb dX7_pairRests_62 (by decide) ?_
      obtain ⟨hP9, hD9⟩ := sub2 hP hD (ws' := [(ob, .inr (7, [.int obv0, .int obv1, .ref obc, .ref ob_3, .int obv4, .ref ob_5, .ref ob_6])), (ob_5, .inl (k 0, 40, .inl obg5)), (ob_6, .inl (k 0, 4, .inl obg6)), (tn, .inr (10, [.int tnv0, .int tnv1, .int tnv2, .ref tn_3, .ref tn_4, .ref tn_5, .ref tn_6, .int tnv7, .int tnv8, .ref tn_9, .ref tn_10, .int tnv11, .ref tn_12, .ref tn_13, .ref tn_14, .ref tn_15, .int tnv16, .ref tn_17, .ref tn_18, .ref tnt]))]) [0, 1, 2, 3] (by decide +kernel) rfl
      exact W.zret (v := 1) hx hb hr (by decide) (fun tZ ht hW => ⟨⟨1, (), rfl, (show 0 ≤ 1 ∧ 1 ≤ 1 from by omega), by rw [ht]; exact hP9, va_K.moved hW.alike hK, hD9⟩, hS.F ht⟩) hS.2.2 dX7_pairRests_66
  · skip
    have zh_6 : L16l5.toInt < tnv8.toInt := z_nle h_6
    refine lv_aload_n hx hb dX7_pairRests_25 rfl (lv_at hl 0 rfl) ?_
    refine va_get (D := D) (ci := 7) (v := .ref ob_5) (C := RX7) (T := TX7) (N := 7) hx hb hts iT_X7 hown hK hP 0 rfl rfl 5 (by decide) (hts _ tw_2_71) (fun _ h9 => h9) rfl dX7_pairRests_26 ?_
    refine lv_iload hx hb dX7_pairRests_29 (lv_at hl 5 rfl) ?_
    refine lv_bipush (v := 10) hx hb dX7_pairRests_31 (by decide) ?_
    refine lv_imul hx hb dX7_pairRests_33 ?_
    refine lv_topi (fun x_9 ex_9 => ?_)
    have zx_9 : x_9.toInt = L16l5.toInt * 10 := by rw [ex_9]; exact z_mul rfl rfl (by omega) (by omega)
    refine lv_iload_n hx hb dX7_pairRests_34 rfl (lv_at hl 3 rfl) ?_
    refine lv_iadd hx hb dX7_pairRests_35 ?_
    refine lv_topi (fun x_10 ex_10 => ?_)
    have zx_10 : x_10.toInt = x_9.toInt + p2.toInt := by rw [ex_10]; exact z_add rfl rfl (by omega) (by omega)
    refine va_iald hx hb hK hP 1 0 rfl rfl (z_in (by omega) (by omega)) dX7_pairRests_36 ?_
    refine lv_topi (fun x_11 ex_11 => ?_)
    refine lv_iload hx hb dX7_pairRests_37 (lv_at hl 4 rfl) ?_
    refine lv_icmp_ge (tgt := 44) hx hb dX7_pairRests_39 (by decide) (fun h_12 => ?_) (fun h_12 => ?_)
    · skip
      have zh_12 : x_3.toInt ≤ x_11.toInt := z_le h_12
      obtain ⟨x_13, ex_13⟩ : ∃ y : Int32, y = L16l5 + 1 := ⟨_, rfl⟩
      have zx_13 : x_13.toInt = L16l5.toInt + 1 := by rw [ex_13]; exact z_add rfl rfl (by omega) (by omega)
      refine lv_iinc (v := x_13) (lv' := [(5, .int x_13), (0, .ref ob), (1, .ref tn), (2, .int p1), (3, .int p2), (4, .int x_3)]) hx hb dX7_pairRests_44 hl (k := 5) rfl (by rw [ex_13]; rfl) (by decide) rfl (fun ls hl => ?_)
      refine lv_goto (tgt := 16) hx hb dX7_pairRests_47 (by decide) ?_
      exact ih_4 _ _ _ _ (by omega) ⟨x_13, rfl, (show 0 ≤ x_13.toInt ∧ x_13.toInt ≤ 4 from by omega), hP.sub (ws' := [(ob, .inr (7, [.int obv0, .int obv1, .ref obc, .ref ob_3, .int obv4, .ref ob_5, .ref ob_6])), (ob_5, .inl (k 0, 40, .inl obg5)), (ob_6, .inl (k 0, 4, .inl obg6)), (tn, .inr (10, [.int tnv0, .int tnv1, .int tnv2, .ref tn_3, .ref tn_4, .ref tn_5, .ref tn_6, .int tnv7, .int tnv8, .ref tn_9, .ref tn_10, .int tnv11, .ref tn_12, .ref tn_13, .ref tn_14, .ref tn_15, .int tnv16, .ref tn_17, .ref tn_18, .ref tnt]))]) [0, 1, 2, 3] rfl, hD.sub (ws' := [(ob, .inr (7, [.int obv0, .int obv1, .ref obc, .ref ob_3, .int obv4, .ref ob_5, .ref ob_6])), (ob_5, .inl (k 0, 40, .inl obg5)), (ob_6, .inl (k 0, 4, .inl obg6)), (tn, .inr (10, [.int tnv0, .int tnv1, .int tnv2, .ref tn_3, .ref tn_4, .ref tn_5, .ref tn_6, .int tnv7, .int tnv8, .ref tn_9, .ref tn_10, .int tnv11, .ref tn_12, .ref tn_13, .ref tn_14, .ref tn_15, .int tnv16, .ref tn_17, .ref tn_18, .ref tnt]))]) [0, 1, 2, 3] (by decide +kernel) rfl, hS, lv_sub hl [1, 2, 3, 4, 5, 0] rfl⟩
    · skip
      have zh_12 : x_11.toInt < x_3.toInt := z_nle h_12
      refine lv_iconst (v := 0) hx hb dX7_pairRests_42 (by decide) ?_
      obtain ⟨hP9, hD9⟩ := sub2 hP hD (ws' := [(ob, .inr (7, [.int obv0, .int obv1, .ref obc, .ref ob_3, .int obv4, .ref ob_5, .ref ob_6])), (ob_5, .inl (k 0, 40, .inl obg5)), (ob_6, .inl (k 0, 4, .inl obg6)), (tn, .inr (10, [.int tnv0, .int tnv1, .int tnv2, .ref tn_3, .ref tn_4, .ref tn_5, .ref tn_6, .int tnv7, .int tnv8, .ref tn_9, .ref tn_10, .int tnv11, .ref tn_12, .ref tn_13, .ref tn_14, .ref tn_15, .int tnv16, .ref tn_17, .ref tn_18, .ref tnt]))]) [0, 1, 2, 3] (by decide +kernel) rfl
      exact W.zret (v := 0) hx hb hr (by decide) (fun tZ ht hW => ⟨⟨0, (), rfl, (show 0 ≤ 0 ∧ 0 ≤ 1 from by omega), by rw [ht]; exact hP9, va_K.moved hW.alike hK, hD9⟩, hS.F ht⟩) hS.2.2 dX7_pairRests_43
set_option maxHeartbeats 4000000 in
set_option maxRecDepth 100000 in
theorem c_X7_restingPairs (l : Launch) (D : va_G) (k : Nat → ClassId) (ob : Nat) (tn : Nat) (obv0 : Int32) (obv1 : Int32) (obc : Nat) (ob_3 : Nat) (obv4 : Int32) (ob_5 : Nat) (ob_6 : Nat) (obg5 : Nat → Int32) (obg6 : Nat → Int32) (tnv0 : Int32) (tnv1 : Int32) (tnv2 : Int32) (tn_3 : Nat) (tn_4 : Nat) (tn_5 : Nat) (tn_6 : Nat) (tnv7 : Int32) (tnv8 : Int32) (tn_9 : Nat) (tn_10 : Nat) (tnv11 : Int32) (tn_12 : Nat) (tn_13 : Nat) (tn_14 : Nat) (tn_15 : Nat) (tnv16 : Int32) (tn_17 : Nat) (tn_18 : Nat) (tnt : Nat) (sz : Nat) (h_obv4 : 0 ≤ obv4.toInt ∧ obv4.toInt ≤ 1024) (h_tnv0 : 0 ≤ tnv0.toInt ∧ tnv0.toInt ≤ 8) (h_tnv2 : 0 ≤ tnv2.toInt ∧ tnv2.toInt ≤ 10) (h_tnv8 : 0 ≤ tnv8.toInt ∧ tnv8.toInt ≤ 4) (h_tnv11 : 0 ≤ tnv11.toInt ∧ tnv11.toInt ≤ 6) (h_tnv16 : 0 ≤ tnv16.toInt ∧ tnv16.toInt ≤ 2) : Met l yX7_restingPairs (ww yX7_restingPairs cX7_restingPairs 5 (some .int)) ({ frames := 2, cells := 0, slots := 0, locals := 41 }) (Pre0 D k [(ob, .inr (7, [.int obv0, .int obv1, .ref obc, .ref ob_3, .int obv4, .ref ob_5, .ref ob_6])), (ob_5, .inl (k 0, 40, .inl obg5)), (ob_6, .inl (k 0, 4, .inl obg6)), (tn, .inr (10, [.int tnv0, .int tnv1, .int tnv2, .ref tn_3, .ref tn_4, .ref tn_5, .ref tn_6, .int tnv7, .int tnv8, .ref tn_9, .ref tn_10, .int tnv11, .ref tn_12, .ref tn_13, .ref tn_14, .ref tn_15, .int tnv16, .ref tn_17, .ref tn_18, .ref tnt]))] sz [.ref ob, .ref tn]) (va_Qi (fun (r : Int32) (_ : Unit) => True) (fun (_ : Unit) tZ => Bw D k (va_A [(ob, .inr (7, [.int obv0, .int obv1, .ref obc, .ref ob_3, .int obv4, .ref ob_5, .ref ob_6])), (ob_5, .inl (k 0, 40, .inl obg5)), (ob_6, .inl (k 0, 4, .inl obg6)), (tn, .inr (10, [.int tnv0, .int tnv1, .int tnv2, .ref tn_3, .ref tn_4, .ref tn_5, .ref tn_6, .int tnv7, .int tnv8, .ref tn_9, .ref tn_10, .int tnv11, .ref tn_12, .ref tn_13, .ref tn_14, .ref tn_15, .int tnv16, .ref tn_17, .ref tn_18, .ref tnt]))] sz) [(ob, .inr (7, [.int obv0, .int obv1, .ref obc, .ref ob_3, .int obv4, .ref ob_5, .ref ob_6])), (ob_5, .inl (k 0, 40, .inl obg5)), (ob_6, .inl (k 0, 4, .inl obg6)), (tn, .inr (10, [.int tnv0, .int tnv1, .int tnv2, .ref tn_3, .ref tn_4, .ref tn_5, .ref tn_6, .int tnv7, .int tnv8, .ref tn_9, .ref tn_10, .int tnv11, .ref tn_12, .ref tn_13, .ref tn_14, .ref tn_15, .int tnv16, .ref tn_17, .ref tn_18, .ref tnt]))] tZ) (va_A [(ob, .inr (7, [.int obv0, .int obv1, .ref obc, .ref ob_3, .int obv4, .ref ob_5, .ref ob_6])), (ob_5, .inl (k 0, 40, .inl obg5)), (ob_6, .inl (k 0, 4, .inl obg6)), (tn, .inr (10, [.int tnv0, .int tnv1, .int tnv2, .ref tn_3, .ref tn_4, .ref tn_5, .ref tn_6, .int tnv7, .int tnv8, .ref tn_9, .ref tn_10, .int tnv11, .ref tn_12, .ref tn_13, .ref tn_14, .ref tn_15, .int tnv16, .ref tn_17, .ref tn_18, .ref tnt]))] sz)) 0 0 (va_A [(ob, .inr (7, [.int obv0, .int obv1, .ref obc, .ref ob_3, .int obv4, .ref ob_5, .ref ob_6])), (ob_5, .inl (k 0, 40, .inl obg5)), (ob_6, .inl (k 0, 4, .inl obg6)), (tn, .inr (10, [.int tnv0, .int tnv1, .int tnv2, .ref tn_3, .ref tn_4, .ref tn_5, .ref tn_6, .int tnv7, .int tnv8, .ref tn_9, .ref tn_10, .int tnv11, .ref tn_12, .ref tn_13, .ref tn_14, .ref tn_15, .int tnv16, .ref tn_17, .ref tn_18, .ref tnt]))] sz) := by
  refine Met.ofW (cc := cX7_restingPairs) (maxL := 5) (ret := (some .int)) (by decide +kernel) rfl ?_
  intro p e s m args below meth c s₁ B hml hv
  obtain ⟨rfl, hsz, hP, hK, hD0, hN⟩ := hv
  have hx := B.exec
  have hb := B.bytes
  have hr := B.returns
  have hts : ∀ w ∈ TT, w.before _ s = true := fun w h => atoms_spec (ws := ww yX7_restingPairs cX7_restingPairs 5 (some .int)) B.pre w (List.mem_cons_of_mem _ h)
  have hown : s.vm.findClass RX7 = some m.cls := findClass_of_methodNamed B.named
  have hlocks := B.notSynchronized
  subst hsz
  have hD := hD0.self (sz := s.heap.size)
  generalize hAe : va_A [(ob, .inr (7, [.int obv0, .int obv1, .ref obc, .ref ob_3, .int obv4, .ref ob_5, .ref ob_6])), (ob_5, .inl (k 0, 40, .inl obg5)), (ob_6, .inl (k 0, 4, .inl obg6)), (tn, .inr (10, [.int tnv0, .int tnv1, .int tnv2, .ref tn_3, .ref tn_4, .ref tn_5, .ref tn_6, .int tnv7, .int tnv8, .ref tn_9, .ref tn_10, .int tnv11, .ref tn_12, .ref tn_13, .ref tn_14, .ref tn_15, .int tnv16, .ref tn_17, .ref tn_18, .ref tnt]))] s.heap.size = A at hD ⊢
  have hA : ∀ q : Nat, s.heap.size ≤ q → A q := fun q h => by rw [← hAe]; exact Or.inr h
  have hS : va_S A s.heap s.heap [] := va_S.rf
  have hl := lv_entry ([.ref ob, .ref tn]) (n := 5) (Nat.le_of_ble_eq_true rfl)
  rw [lg_entry_eq]
  generalize (lg_sl ([.ref ob, .ref tn]) ++ List.replicate (5 - (lg_sl ([.ref ob, .ref tn])).length) Slot.unset).toArray = ls at hl ⊢
  have hl : lv_has ls 5 [(0, .ref ob), (1, .ref tn)] := hl
  refine lv_iconst (v := 0) hx hb dX7_restingPairs_0 (by decide) ?_
  refine lv_istore_n (lv' := [(2, .int 0), (0, .ref ob), (1, .ref tn)]) hx hb dX7_restingPairs_1 rfl hl (by decide) rfl (fun ls hl => ?_)
  refine lv_iconst (v := 0) hx hb dX7_restingPairs_2 (by decide) ?_
  refine lv_istore_n (lv' := [(3, .int 0), (2, .int 0), (0, .ref ob), (1, .ref tn)]) hx hb dX7_restingPairs_3 rfl hl (by decide) rfl (fun ls hl => ?_)
  refine loop_r (Wg := fun H locs ls => W p l e _ s m _ below meth c H locs _ _ _ (F0 m 4 ls [])) (fun n9 H locs ls => ∃ (L4l2 : Int32) (L4l3 : Int32), n9 = (4 - L4l3.toInt).toNat ∧ (0 ≤ L4l3.toInt ∧ L4l3.toInt ≤ 4) ∧ va_P D vwCl [(ob, .inr (7, [.int obv0, .int obv1, .ref obc, .ref ob_3, .int obv4, .ref ob_5, .ref ob_6])), (ob_5, .inl (k 0, 40, .inl obg5)), (ob_6, .inl (k 0, 4, .inl obg6)), (tn, .inr (10, [.int tnv0, .int tnv1, .int tnv2, .ref tn_3, .ref tn_4, .ref tn_5, .ref tn_6, .int tnv7, .int tnv8, .ref tn_9, .ref tn_10, .int tnv11, .ref tn_12, .ref tn_13, .ref tn_14, .ref tn_15, .int tnv16, .ref tn_17, .ref tn_18, .ref tnt]))] H ∧ va_D A [(ob, .inr (7, [.int obv0, .int obv1, .ref obc, .ref ob_3, .int obv4, .ref ob_5, .ref ob_6])), (ob_5, .inl (k 0, 40, .inl obg5)), (ob_6, .inl (k 0, 4, .inl obg6)), (tn, .inr (10, [.int tnv0, .int tnv1, .int tnv2, .ref tn_3, .ref tn_4, .ref tn_5, .ref tn_6, .int tnv7, .int tnv8, .ref tn_9, .ref tn_10, .int tnv11, .ref tn_12, .ref tn_13, .ref tn_14, .ref tn_15, .int tnv16, .ref tn_17, .ref tn_18, .ref tnt]))] ∧ va_S A s.heap H locs ∧ lv_has ls 5 [(0, .ref ob), (1, .ref tn), (2, .int L4l2), (3, .int L4l3)]) (fun n9 H locs ls hI ih_1 => ?_) _ _ _ _ ⟨0, 0, rfl, (show 0 ≤ 0 ∧ 0 ≤ 4 from by omega), hP.sub (ws' := [(ob, .inr (7, [.int obv0, .int obv1, .ref obc, .ref ob_3, .int obv4, .ref ob_5, .ref ob_6])), (ob_5, .inl (k 0, 40, .inl obg5)), (ob_6, .inl (k 0, 4, .inl obg6)), (tn, .inr (10, [.int tnv0, .int tnv1, .int tnv2, .ref tn_3, .ref tn_4, .ref tn_5, .ref tn_6, .int tnv7, .int tnv8, .ref tn_9, .ref tn_10, .int tnv11, .ref tn_12, .ref tn_13, .ref tn_14, .ref tn_15, .int tnv16, .ref tn_17, .ref tn_18, .ref tnt]))]) [0, 1, 2, 3] rfl, hD.sub (ws' := [(ob, .inr (7, [.int obv0, .int obv1, .ref obc, .ref ob_3, .int obv4, .ref ob_5, .ref ob_6])), (ob_5, .inl (k 0, 40, .inl obg5)), (ob_6, .inl (k 0, 4, .inl obg6)), (tn, .inr (10, [.int tnv0, .int tnv1, .int tnv2, .ref tn_3, .ref tn_4, .ref tn_5, .ref tn_6, .int tnv7, .int tnv8, .ref tn_9, .ref tn_10, .int tnv11, .ref tn_12, .ref tn_13, .ref tn_14, .ref tn_15, .int tnv16, .ref tn_17, .ref tn_18, .ref tnt]))]) [0, 1, 2, 3] (by decide +kernel) rfl, hS, lv_sub hl [2, 3, 1, 0] rfl⟩
  clear hP hD hS hl
  obtain ⟨L4l2, L4l3, en_2, zL4l3, hP, hD, hS, hl⟩ := hI
  refine lv_iload_n hx hb dX7_restingPairs_4 rfl (lv_at hl 3 rfl) ?_
  refine lv_aload_n hx hb dX7_restingPairs_5 rfl (lv_at hl 1 rfl) ?_
  refine va_get (D := D) (ci := 10) (v := .int tnv8) (C := RX10) (T := TX10) (N := 20) hx hb hts iT_X10 hown hK hP 3 rfl rfl 8 (by decide) (hts _ tw_1_107) (fun _ h9 => h9) rfl dX7_restingPairs_6 ?_
  refine lv_icmp_ge (tgt := 59) hx hb dX7_restingPairs_9 (by decide) (fun h_3 => ?_) (fun h_3 => ?_)
  · skip
    have zh_3 : tnv8.toInt ≤ L4l3.toInt := z_le h_3
    refine lv_iload_n hx hb dX7_restingPairs_59 rfl (lv_at hl 2 rfl) ?_
    obtain ⟨hP9, hD9⟩ := sub2 hP hD (ws' := [(ob, .inr (7, [.int obv0, .int obv1, .ref obc, .ref ob_3, .int obv4, .ref ob_5, .ref ob_6])), (ob_5, .inl (k 0, 40, .inl obg5)), (ob_6, .inl (k 0, 4, .inl obg6)), (tn, .inr (10, [.int tnv0, .int tnv1, .int tnv2, .ref tn_3, .ref tn_4, .ref tn_5, .ref tn_6, .int tnv7, .int tnv8, .ref tn_9, .ref tn_10, .int tnv11, .ref tn_12, .ref tn_13, .ref tn_14, .ref tn_15, .int tnv16, .ref tn_17, .ref tn_18, .ref tnt]))]) [0, 1, 2, 3] (by decide +kernel) rfl
    exact W.iret (v := L4l2) hx hb hr (fun tZ ht hW => ⟨⟨L4l2, (), rfl, trivial, by rw [ht]; exact hP9, va_K.moved hW.alike hK, hD9⟩, hS.F ht⟩) hS.2.2 dX7_restingPairs_60
  · skip
    have zh_3 : L4l3.toInt < tnv8.toInt := z_nle h_3
    refine lv_iconst (v := 0) hx hb dX7_restingPairs_12 (by decide) ?_
    refine lv_istore (lv' := [(4, .int 0), (0, .ref ob), (1, .ref tn), (2, .int L4l2), (3, .int L4l3)]) hx hb dX7_restingPairs_13 hl (by decide) rfl (fun ls hl => ?_)
    refine loop_r (Wg := fun H locs ls => W p l e _ s m _ below meth c H locs _ _ _ (F0 m 15 ls [])) (fun n9 H locs ls => ∃ (L15l2 : Int32) (L15l4 : Int32), n9 = (10 - L15l4.toInt).toNat ∧ (0 ≤ L15l4.toInt ∧ L15l4.toInt ≤ 10) ∧ va_P D vwCl [(ob, .inr (7, [.int obv0, .int obv1, .ref obc, .ref ob_3, .int obv4, .ref ob_5, .ref ob_6])), (ob_5, .inl (k 0, 40, .inl obg5)), (ob_6, .inl (k 0, 4, .inl obg6)), (tn, .inr (10, [.int tnv0, .int tnv1, .int tnv2, .ref tn_3, .ref tn_4, .ref tn_5, .ref tn_6, .int tnv7, .int tnv8, .ref tn_9, .ref tn_10, .int tnv11, .ref tn_12, .ref tn_13, .ref tn_14, .ref tn_15, .int tnv16, .ref tn_17, .ref tn_18, .ref tnt]))] H ∧ va_D A [(ob, .inr (7, [.int obv0, .int obv1, .ref obc, .ref ob_3, .int obv4, .ref ob_5, .ref ob_6])), (ob_5, .inl (k 0, 40, .inl obg5)), (ob_6, .inl (k 0, 4, .inl obg6)), (tn, .inr (10, [.int tnv0, .int tnv1, .int tnv2, .ref tn_3, .ref tn_4, .ref tn_5, .ref tn_6, .int tnv7, .int tnv8, .ref tn_9, .ref tn_10, .int tnv11, .ref tn_12, .ref tn_13, .ref tn_14, .ref tn_15, .int tnv16, .ref tn_17, .ref tn_18, .ref tnt]))] ∧ va_S A s.heap H locs ∧ lv_has ls 5 [(0, .ref ob), (1, .ref tn), (2, .int L15l2), (3, .int L4l3), (4, .int L15l4)]) (fun n9 H locs ls hI ih_4 => ?_) _ _ _ _ ⟨L4l2, 0, rfl, (show 0 ≤ 0 ∧ 0 ≤ 10 from by omega), hP.sub (ws' := [(ob, .inr (7, [.int obv0, .int obv1, .ref obc, .ref ob_3, .int obv4, .ref ob_5, .ref ob_6])), (ob_5, .inl (k 0, 40, .inl obg5)), (ob_6, .inl (k 0, 4, .inl obg6)), (tn, .inr (10, [.int tnv0, .int tnv1, .int tnv2, .ref tn_3, .ref tn_4, .ref tn_5, .ref tn_6, .int tnv7, .int tnv8, .ref tn_9, .ref tn_10, .int tnv11, .ref tn_12, .ref tn_13, .ref tn_14, .ref tn_15, .int tnv16, .ref tn_17, .ref tn_18, .ref tnt]))]) [0, 1, 2, 3] rfl, hD.sub (ws' := [(ob, .inr (7, [.int obv0, .int obv1, .ref obc, .ref ob_3, .int obv4, .ref ob_5, .ref ob_6])), (ob_5, .inl (k 0, 40, .inl obg5)), (ob_6, .inl (k 0, 4, .inl obg6)), (tn, .inr (10, [.int tnv0, .int tnv1, .int tnv2, .ref tn_3, .ref tn_4, .ref tn_5, .ref tn_6, .int tnv7, .int tnv8, .ref tn_9, .ref tn_10, .int tnv11, .ref tn_12, .ref tn_13, .ref tn_14, .ref tn_15, .int tnv16, .ref tn_17, .ref tn_18, .ref tnt]))]) [0, 1, 2, 3] (by decide +kernel) rfl, hS, lv_sub hl [1, 2, 3, 4, 0] rfl⟩
    clear hP hD hS hl
    obtain ⟨L15l2, L15l4, en_5, zL15l4, hP, hD, hS, hl⟩ := hI
    refine lv_iload hx hb dX7_restingPairs_15 (lv_at hl 4 rfl) ?_
    refine lv_aload_n hx hb dX7_restingPairs_17 rfl (lv_at hl 1 rfl) ?_
    refine va_get (D := D) (ci := 10) (v := .int tnv2) (C := RX10) (T := TX10) (N := 20) hx hb hts iT_X10 hown hK hP 3 rfl rfl 2 (by decide) (hts _ tw_1_80) (fun _ h9 => h9) rfl dX7_restingPairs_18 ?_
    refine lv_icmp_ge (tgt := 53) hx hb dX7_restingPairs_21 (by decide) (fun h_6 => ?_) (fun h_6 => ?_)
    · skip
      have zh_6 : tnv2.toInt ≤ L15l4.toInt := z_le h_6
      obtain ⟨x_7, ex_7⟩ : ∃ y : Int32, y = L4l3 + 1 := ⟨_, rfl⟩
      have zx_7 : x_7.toInt = L4l3.toInt + 1 := by rw [ex_7]; exact z_add rfl rfl (by omega) (by omega)
      refine lv_iinc (v := x_7) (lv' := [(3, .int x_7), (0, .ref ob), (1, .ref tn), (2, .int L15l2), (4, .int L15l4)]) hx hb dX7_restingPairs_53 hl (k := 3) rfl (by rw [ex_7]; rfl) (by decide) rfl (fun ls hl => ?_)
      refine lv_goto (tgt := 4) hx hb dX7_restingPairs_56 (by decide) ?_
      exact ih_1 _ _ _ _ (by omega) ⟨L15l2, x_7, rfl, (show 0 ≤ x_7.toInt ∧ x_7.toInt ≤ 4 from by omega), hP.sub (ws' := [(ob, .inr (7, [.int obv0, .int obv1, .ref obc, .ref ob_3, .int obv4, .ref ob_5, .ref ob_6])), (ob_5, .inl (k 0, 40, .inl obg5)), (ob_6, .inl (k 0, 4, .inl obg6)), (tn, .inr (10, [.int tnv0, .int tnv1, .int tnv2, .ref tn_3, .ref tn_4, .ref tn_5, .ref tn_6, .int tnv7, .int tnv8, .ref tn_9, .ref tn_10, .int tnv11, .ref tn_12, .ref tn_13, .ref tn_14, .ref tn_15, .int tnv16, .ref tn_17, .ref tn_18, .ref tnt]))]) [0, 1, 2, 3] rfl, hD.sub (ws' := [(ob, .inr (7, [.int obv0, .int obv1, .ref obc, .ref ob_3, .int obv4, .ref ob_5, .ref ob_6])), (ob_5, .inl (k 0, 40, .inl obg5)), (ob_6, .inl (k 0, 4, .inl obg6)), (tn, .inr (10, [.int tnv0, .int tnv1, .int tnv2, .ref tn_3, .ref tn_4, .ref tn_5, .ref tn_6, .int tnv7, .int tnv8, .ref tn_9, .ref tn_10, .int tnv11, .ref tn_12, .ref tn_13, .ref tn_14, .ref tn_15, .int tnv16, .ref tn_17, .ref tn_18, .ref tnt]))]) [0, 1, 2, 3] (by decide +kernel) rfl, hS, lv_sub hl [1, 2, 3, 0] rfl⟩
    · skip
      have zh_6 : L15l4.toInt < tnv2.toInt := z_nle h_6
      refine lv_aload_n hx hb dX7_restingPairs_24 rfl (lv_at hl 1 rfl) ?_
      refine lv_iload hx hb dX7_restingPairs_25 (lv_at hl 4 rfl) ?_
      obtain ⟨hPc, hDc, hFc⟩ := sub3 hP hD hS hA (ws' := [(tn, .inr (10, [.int tnv0, .int tnv1, .int tnv2, .ref tn_3, .ref tn_4, .ref tn_5, .ref tn_6, .int tnv7, .int tnv8, .ref tn_9, .ref tn_10, .int tnv11, .ref tn_12, .ref tn_13, .ref tn_14, .ref tn_15, .int tnv16, .ref tn_17, .ref tn_18, .ref tnt]))]) [3] (by decide +kernel) rfl
      refine va_calli (va_runS (As := [.ref tn, .int L15l4]) (rest := []) ⟨hx, hb, hml, hown, hts⟩ (c_X7_isOpenIn l D k tn L15l4 tnv0 tnv1 tnv2 tn_3 tn_4 tn_5 tn_6 tnv7 tnv8 tn_9 tn_10 tnv11 tn_12 tn_13 tn_14 tn_15 tnv16 tn_17 tn_18 tnt H.size (show 0 ≤ tnv0.toInt ∧ tnv0.toInt ≤ 8 from by omega) (show 0 ≤ tnv2.toInt ∧ tnv2.toInt ≤ 10 from by omega) (show 0 ≤ tnv8.toInt ∧ tnv8.toInt ≤ 4 from by omega) (show 0 ≤ tnv11.toInt ∧ tnv11.toInt ≤ 6 from by omega) (show 0 ≤ tnv16.toInt ∧ tnv16.toInt ≤ 2 from by omega)) (va_cwS 2 hts (gS tw_5_118 tw_5_119 tw_1_8 tw_5_120) rfl rfl rfl hdS_X7_isOpenIn ⟨Nat.le_of_ble_eq_true rfl, Nat.le_of_ble_eq_true rfl⟩) (cz_S hK hPc hDc hN [.ref tn, .int L15l4]) rfl rfl hl.1 rfl (lv_room (Nat.le_of_ble_eq_true rfl)) dX7_restingPairs_27 ⟨Nat.le_of_ble_eq_true rfl, Nat.le_of_ble_eq_true rfl⟩) hS (fun q _ h => hFc q h) hFc (fun r_8 uZ tZ H1 locs ht hvm hw hB hz1 hk1 hS => ?_)
      obtain ⟨hP1, hK1, hD1⟩ := hB
      rw [ht] at hP1
      obtain ⟨hP, hD⟩ := va_join (wr := [(ob, .inr (7, [.int obv0, .int obv1, .ref obc, .ref ob_3, .int obv4, .ref ob_5, .ref ob_6])), (ob_5, .inl (k 0, 40, .inl obg5)), (ob_6, .inl (k 0, 4, .inl obg6))]) (w1 := [(tn, .inr (10, [.int tnv0, .int tnv1, .int tnv2, .ref tn_3, .ref tn_4, .ref tn_5, .ref tn_6, .int tnv7, .int tnv8, .ref tn_9, .ref tn_10, .int tnv11, .ref tn_12, .ref tn_13, .ref tn_14, .ref tn_15, .int tnv16, .ref tn_17, .ref tn_18, .ref tnt]))]) hP hD [3] [0, 1, 2] rfl rfl (by decide +kernel) (by decide +kernel) hk1 hFc hP1 hD1
      clear hK1 hP1 hD1 hPc hDc hFc
      clear hk1 hz1 ht hvm
      have hP : va_P D vwCl [(ob, .inr (7, [.int obv0, .int obv1, .ref obc, .ref ob_3, .int obv4, .ref ob_5, .ref ob_6])), (ob_5, .inl (k 0, 40, .inl obg5)), (ob_6, .inl (k 0, 4, .inl obg6)), (tn, .inr (10, [.int tnv0, .int tnv1, .int tnv2, .ref tn_3, .ref tn_4, .ref tn_5, .ref tn_6, .int tnv7, .int tnv8, .ref tn_9, .ref tn_10, .int tnv11, .ref tn_12, .ref tn_13, .ref tn_14, .ref tn_15, .int tnv16, .ref tn_17, .ref tn_18, .ref tnt]))] H1 := hP
      have hD : va_D A [(ob, .inr (7, [.int obv0, .int obv1, .ref obc, .ref ob_3, .int obv4, .ref ob_5, .ref ob_6])), (ob_5, .inl (k 0, 40, .inl obg5)), (ob_6, .inl (k 0, 4, .inl obg6)), (tn, .inr (10, [.int tnv0, .int tnv1, .int tnv2, .ref tn_3, .ref tn_4, .ref tn_5, .ref tn_6, .int tnv7, .int tnv8, .ref tn_9, .ref tn_10, .int tnv11, .ref tn_12, .ref tn_13, .ref tn_14, .ref tn_15, .int tnv16, .ref tn_17, .ref tn_18, .ref tnt]))] := hD
      generalize H1 = H at hP hS ⊢
      have hw_9 : (0 ≤ r_8.toInt ∧ r_8.toInt ≤ 1) := hw
      have hw_10 := hw_9
      clear hw
      refine lv_if_eq (tgt := 47) hx hb dX7_restingPairs_30 (by decide) (fun h_11 => ?_) (fun h_11 => ?_)
      · skip
        have zh_11 : r_8.toInt = 0 := z_eq h_11
        obtain ⟨x_12, ex_12⟩ : ∃ y : Int32, y = L15l4 + 1 := ⟨_, rfl⟩
        have zx_12 : x_12.toInt = L15l4.toInt + 1 := by rw [ex_12]; exact z_add rfl rfl (by omega) (by omega)
        refine lv_iinc (v := x_12) (lv' := [(4, .int x_12), (0, .ref ob), (1, .ref tn), (2, .int L15l2), (3, .int L4l3)]) hx hb dX7_restingPairs_47 hl (k := 4) rfl (by rw [ex_12]; rfl) (by decide) rfl (fun ls hl => ?_)
        refine lv_goto (tgt := 15) hx hb dX7_restingPairs_50 (by decide) ?_
        exact ih_4 _ _ _ _ (by omega) ⟨L15l2, x_12, rfl, (show 0 ≤ x_12.toInt ∧ x_12.toInt ≤ 10 from by omega), hP.sub (ws' := [(ob, .inr (7, [.int obv0, .int obv1, .ref obc, .ref ob_3, .int obv4, .ref ob_5, .ref ob_6])), (ob_5, .inl (k 0, 40, .inl obg5)), (ob_6, .inl (k 0, 4, .inl obg6)), (tn, .inr (10, [.int tnv0, .int tnv1, .int tnv2, .ref tn_3, .ref tn_4, .ref tn_5, .ref tn_6, .int tnv7, .int tnv8, .ref tn_9, .ref tn_10, .int tnv11, .ref tn_12, .ref tn_13, .ref tn_14, .ref tn_15, .int tnv16, .ref tn_17, .ref tn_18, .ref tnt]))]) [0, 1, 2, 3] rfl, hD.sub (ws' := [(ob, .inr (7, [.int obv0, .int obv1, .ref obc, .ref ob_3, .int obv4, .ref ob_5, .ref ob_6])), (ob_5, .inl (k 0, 40, .inl obg5)), (ob_6, .inl (k 0, 4, .inl obg6)), (tn, .inr (10, [.int tnv0, .int tnv1, .int tnv2, .ref tn_3, .ref tn_4, .ref tn_5, .ref tn_6, .int tnv7, .int tnv8, .ref tn_9, .ref tn_10, .int tnv11, .ref tn_12, .ref tn_13, .ref tn_14, .ref tn_15, .int tnv16, .ref tn_17, .ref tn_18, .ref tnt]))]) [0, 1, 2, 3] (by decide +kernel) rfl, hS, lv_sub hl [1, 2, 3, 4, 0] rfl⟩
      · skip
        have zh_11 : ¬ r_8.toInt = 0 := z_ne h_11
        refine lv_aload_n hx hb dX7_restingPairs_33 rfl (lv_at hl 0 rfl) ?_
        refine lv_aload_n hx hb dX7_restingPairs_34 rfl (lv_at hl 1 rfl) ?_
        refine lv_iload_n hx hb dX7_restingPairs_35 rfl (lv_at hl 3 rfl) ?_
        refine lv_iload hx hb dX7_restingPairs_36 (lv_at hl 4 rfl) ?_
        obtain ⟨hPc, hDc, hFc⟩ := sub3 hP hD hS hA (ws' := [(ob, .inr (7, [.int obv0, .int obv1, .ref obc, .ref ob_3, .int obv4, .ref ob_5, .ref ob_6])), (ob_5, .inl (k 0, 40, .inl obg5)), (ob_6, .inl (k 0, 4, .inl obg6)), (tn, .inr (10, [.int tnv0, .int tnv1, .int tnv2, .ref tn_3, .ref tn_4, .ref tn_5, .ref tn_6, .int tnv7, .int tnv8, .ref tn_9, .ref tn_10, .int tnv11, .ref tn_12, .ref tn_13, .ref tn_14, .ref tn_15, .int tnv16, .ref tn_17, .ref tn_18, .ref tnt]))]) [0, 1, 2, 3] (by decide +kernel) rfl
        refine va_calli (va_runV (C := RX7) (As := [.ref tn, .int L4l3, .int L15l4]) (rest := []) ⟨hx, hb, hml, hown, hts⟩ (c_X7_pairRests l D k ob tn L4l3 L15l4 obv0 obv1 obc ob_3 obv4 ob_5 ob_6 obg5 obg6 tnv0 tnv1 tnv2 tn_3 tn_4 tn_5 tn_6 tnv7 tnv8 tn_9 tn_10 tnv11 tn_12 tn_13 tn_14 tn_15 tnv16 tn_17 tn_18 tnt H.size (show 0 ≤ L4l3.toInt ∧ L4l3.toInt ≤ 3 from by omega) (show 0 ≤ L15l4.toInt ∧ L15l4.toInt ≤ 9 from by omega) (show 0 ≤ obv4.toInt ∧ obv4.toInt ≤ 1024 from by omega) (show 0 ≤ tnv0.toInt ∧ tnv0.toInt ≤ 8 from by omega) (show 0 ≤ tnv2.toInt ∧ tnv2.toInt ≤ 10 from by omega) (show 0 ≤ tnv8.toInt ∧ tnv8.toInt ≤ 4 from by omega) (show 0 ≤ tnv11.toInt ∧ tnv11.toInt ≤ 6 from by omega) (show 0 ≤ tnv16.toInt ∧ tnv16.toInt ≤ 2 from by omega)) (cwV 3 hts (gV tw_5_126 tw_5_128 tw_p_33 tw_1_8 tw_5_129) rfl rfl rfl hdV_X7_pairRests ⟨Nat.le_of_ble_eq_true rfl, Nat.le_of_ble_eq_true rfl⟩) (cz_V hK hPc hDc hN (ci := 7) (q0 := 0) rfl rfl [.ref tn, .int L4l3, .int L15l4]) rfl rfl hl.1 rfl (lv_room (Nat.le_of_ble_eq_true rfl)) dX7_restingPairs_38 ⟨Nat.le_of_ble_eq_true rfl, Nat.le_of_ble_eq_true rfl⟩) hS (fun q _ h => hFc q h) hFc (fun r_13 uZ tZ H1 locs ht hvm hw hB hz1 hk1 hS => ?_)
        obtain ⟨hP1, hK1, hD1⟩ := hB
        rw [ht] at hP1
        obtain ⟨hP, hD⟩ := va_join (wr := []) (w1 := [(ob, .inr (7, [.int obv0, .int obv1, .ref obc, .ref ob_3, .int obv4, .ref ob_5, .ref ob_6])), (ob_5, .inl (k 0, 40, .inl obg5)), (ob_6, .inl (k 0, 4, .inl obg6)), (tn, .inr (10, [.int tnv0, .int tnv1, .int tnv2, .ref tn_3, .ref tn_4, .ref tn_5, .ref tn_6, .int tnv7, .int tnv8, .ref tn_9, .ref tn_10, .int tnv11, .ref tn_12, .ref tn_13, .ref tn_14, .ref tn_15, .int tnv16, .ref tn_17, .ref tn_18, .ref tnt]))]) hP hD [0, 1, 2, 3] [] rfl rfl (by decide +kernel) (by decide +kernel) hk1 hFc hP1 hD1
        clear hK1 hP1 hD1 hPc hDc hFc
        clear hk1 hz1 ht hvm
        have hP : va_P D vwCl [(ob, .inr (7, [.int obv0, .int obv1, .ref obc, .ref ob_3, .int obv4, .ref ob_5, .ref ob_6])), (ob_5, .inl (k 0, 40, .inl obg5)), (ob_6, .inl (k 0, 4, .inl obg6)), (tn, .inr (10, [.int tnv0, .int tnv1, .int tnv2, .ref tn_3, .ref tn_4, .ref tn_5, .ref tn_6, .int tnv7, .int tnv8, .ref tn_9, .ref tn_10, .int tnv11, .ref tn_12, .ref tn_13, .ref tn_14, .ref tn_15, .int tnv16, .ref tn_17, .ref tn_18, .ref tnt]))] H1 := hP
        have hD : va_D A [(ob, .inr (7, [.int obv0, .int obv1, .ref obc, .ref ob_3, .int obv4, .ref ob_5, .ref ob_6])), (ob_5, .inl (k 0, 40, .inl obg5)), (ob_6, .inl (k 0, 4, .inl obg6)), (tn, .inr (10, [.int tnv0, .int tnv1, .int tnv2, .ref tn_3, .ref tn_4, .ref tn_5, .ref tn_6, .int tnv7, .int tnv8, .ref tn_9, .ref tn_10, .int tnv11, .ref tn_12, .ref tn_13, .ref tn_14, .ref tn_15, .int tnv16, .ref tn_17, .ref tn_18, .ref tnt]))] := hD
        generalize H1 = H at hP hS ⊢
        have hw_14 : (0 ≤ r_13.toInt ∧ r_13.toInt ≤ 1) := hw
        have hw_15 := hw_14
        clear hw
        refine lv_if_eq (tgt := 47) hx hb dX7_restingPairs_41 (by decide) (fun h_16 => ?_) (fun h_16 => ?_)
        · skip
          have zh_16 : r_13.toInt = 0 := z_eq h_16
          obtain ⟨x_17, ex_17⟩ : ∃ y : Int32, y = L15l4 + 1 := ⟨_, rfl⟩
          have zx_17 : x_17.toInt = L15l4.toInt + 1 := by rw [ex_17]; exact z_add rfl rfl (by omega) (by omega)
          refine lv_iinc (v := x_17) (lv' := [(4, .int x_17), (0, .ref ob), (1, .ref tn), (2, .int L15l2), (3, .int L4l3)]) hx hb dX7_restingPairs_47 hl (k := 4) rfl (by rw [ex_17]; rfl) (by decide) rfl (fun ls hl => ?_)
          refine lv_goto (tgt := 15) hx hb dX7_restingPairs_50 (by decide) ?_
          exact ih_4 _ _ _ _ (by omega) ⟨L15l2, x_17, rfl, (show 0 ≤ x_17.toInt ∧ x_17.toInt ≤ 10 from by omega), hP.sub (ws' := [(ob, .inr (7, [.int obv0, .int obv1, .ref obc, .ref ob_3, .int obv4, .ref ob_5, .ref ob_6])), (ob_5, .inl (k 0, 40, .inl obg5)), (ob_6, .inl (k 0, 4, .inl obg6)), (tn, .inr (10, [.int tnv0, .int tnv1, .int tnv2, .ref tn_3, .ref tn_4, .ref tn_5, .ref tn_6, .int tnv7, .int tnv8, .ref tn_9, .ref tn_10, .int tnv11, .ref tn_12, .ref tn_13, .ref tn_14, .ref tn_15, .int tnv16, .ref tn_17, .ref tn_18, .ref tnt]))]) [0, 1, 2, 3] rfl, hD.sub (ws' := [(ob, .inr (7, [.int obv0, .int obv1, .ref obc, .ref ob_3, .int obv4, .ref ob_5, .ref ob_6])), (ob_5, .inl (k 0, 40, .inl obg5)), (ob_6, .inl (k 0, 4, .inl obg6)), (tn, .inr (10, [.int tnv0, .int tnv1, .int tnv2, .ref tn_3, .ref tn_4, .ref tn_5, .ref tn_6, .int tnv7, .int tnv8, .ref tn_9, .ref tn_10, .int tnv11, .ref tn_12, .ref tn_13, .ref tn_14, .ref tn_15, .int tnv16, .ref tn_17, .ref tn_18, .ref tnt]))]) [0, 1, 2, 3] (by decide +kernel) rfl, hS, lv_sub hl [1, 2, 3, 4, 0] rfl⟩
        · skip
          have zh_16 : ¬ r_13.toInt = 0 := z_ne h_16
          obtain ⟨x_18, ex_18⟩ : ∃ y : Int32, y = L15l2 + 1 := ⟨_, rfl⟩
          have zrL15l2 := z_rng L15l2
          refine lv_iinc (v := x_18) (lv' := [(2, .int x_18), (0, .ref ob), (1, .ref tn), (3, .int L4l3), (4, .int L15l4)]) hx hb dX7_restingPairs_44 hl (k := 2) rfl (by rw [ex_18]; rfl) (by decide) rfl (fun ls hl => ?_)
          obtain ⟨x_19, ex_19⟩ : ∃ y : Int32, y = L15l4 + 1 := ⟨_, rfl⟩
          have zx_19 : x_19.toInt = L15l4.toInt + 1 := by rw [ex_19]; exact z_add rfl rfl (by omega) (by omega)
          refine lv_iinc (v := x_19) (lv' := [(4, .int x_19), (2, .int x_18), (0, .ref ob), (1, .ref tn), (3, .int L4l3)]) hx hb dX7_restingPairs_47 hl (k := 4) rfl (by rw [ex_19]; rfl) (by decide) rfl (fun ls hl => ?_)
          refine lv_goto (tgt := 15) hx hb dX7_restingPairs_50 (by decide) ?_
          exact ih_4 _ _ _ _ (by omega) ⟨x_18, x_19, rfl, (show 0 ≤ x_19.toInt ∧ x_19.toInt ≤ 10 from by omega), hP.sub (ws' := [(ob, .inr (7, [.int obv0, .int obv1, .ref obc, .ref ob_3, .int obv4, .ref ob_5, .ref ob_6])), (ob_5, .inl (k 0, 40, .inl obg5)), (ob_6, .inl (k 0, 4, .inl obg6)), (tn, .inr (10, [.int tnv0, .int tnv1, .int tnv2, .ref tn_3, .ref tn_4, .ref tn_5, .ref tn_6, .int tnv7, .int tnv8, .ref tn_9, .ref tn_10, .int tnv11, .ref tn_12, .ref tn_13, .ref tn_14, .ref tn_15, .int tnv16, .ref tn_17, .ref tn_18, .ref tnt]))]) [0, 1, 2, 3] rfl, hD.sub (ws' := [(ob, .inr (7, [.int obv0, .int obv1, .ref obc, .ref ob_3, .int obv4, .ref ob_5, .ref ob_6])), (ob_5, .inl (k 0, 40, .inl obg5)), (ob_6, .inl (k 0, 4, .inl obg6)), (tn, .inr (10, [.int tnv0, .int tnv1, .int tnv2, .ref tn_3, .ref tn_4, .ref tn_5, .ref tn_6, .int tnv7, .int tnv8, .ref tn_9, .ref tn_10, .int tnv11, .ref tn_12, .ref tn_13, .ref tn_14, .ref tn_15, .int tnv16, .ref tn_17, .ref tn_18, .ref tnt]))]) [0, 1, 2, 3] (by decide +kernel) rfl, hS, lv_sub hl [2, 3, 1, 4, 0] rfl⟩
set_option maxHeartbeats 4000000 in
set_option maxRecDepth 100000 in
theorem c_X7_clerksGate (l : Launch) (D : va_G) (k : Nat → ClassId) (ob : Nat) (tn : Nat) (obv0 : Int32) (obv1 : Int32) (obc : Nat) (ob_3 : Nat) (obv4 : Int32) (ob_5 : Nat) (ob_6 : Nat) (obg6 : Nat → Int32) (tnv0 : Int32) (tnv1 : Int32) (tnv2 : Int32) (tn_3 : Nat) (tn_4 : Nat) (tn_5 : Nat) (tn_6 : Nat) (tnv7 : Int32) (tnv8 : Int32) (tn_9 : Nat) (tn_10 : Nat) (tnv11 : Int32) (tn_12 : Nat) (tn_13 : Nat) (tn_14 : Nat) (tn_15 : Nat) (tnv16 : Int32) (tn_17 : Nat) (tn_18 : Nat) (tnt : Nat) (sz : Nat) (h_obv4 : 0 ≤ obv4.toInt ∧ obv4.toInt ≤ 1024) (h_tnv0 : 0 ≤ tnv0.toInt ∧ tnv0.toInt ≤ 8) (h_tnv2 : 0 ≤ tnv2.toInt ∧ tnv2.toInt ≤ 10) (h_tnv8 : 0 ≤ tnv8.toInt ∧ tnv8.toInt ≤ 4) (h_tnv11 : 0 ≤ tnv11.toInt ∧ tnv11.toInt ≤ 6) (h_tnv16 : 0 ≤ tnv16.toInt ∧ tnv16.toInt ≤ 2) : Met l yX7_clerksGate (ww yX7_clerksGate cX7_clerksGate 4 (some .int)) ({ frames := 0, cells := 0, slots := 0, locals := 0 }) (Pre0 D k [(ob, .inr (7, [.int obv0, .int obv1, .ref obc, .ref ob_3, .int obv4, .ref ob_5, .ref ob_6])), (ob_6, .inl (k 0, 4, .inl obg6)), (tn, .inr (10, [.int tnv0, .int tnv1, .int tnv2, .ref tn_3, .ref tn_4, .ref tn_5, .ref tn_6, .int tnv7, .int tnv8, .ref tn_9, .ref tn_10, .int tnv11, .ref tn_12, .ref tn_13, .ref tn_14, .ref tn_15, .int tnv16, .ref tn_17, .ref tn_18, .ref tnt]))] sz [.ref ob, .ref tn]) (va_Qi (fun (r : Int32) (_ : Unit) => ((-1) ≤ r.toInt ∧ r.toInt ≤ 3)) (fun (_ : Unit) tZ => Bw D k (va_A [(ob, .inr (7, [.int obv0, .int obv1, .ref obc, .ref ob_3, .int obv4, .ref ob_5, .ref ob_6])), (ob_6, .inl (k 0, 4, .inl obg6)), (tn, .inr (10, [.int tnv0, .int tnv1, .int tnv2, .ref tn_3, .ref tn_4, .ref tn_5, .ref tn_6, .int tnv7, .int tnv8, .ref tn_9, .ref tn_10, .int tnv11, .ref tn_12, .ref tn_13, .ref tn_14, .ref tn_15, .int tnv16, .ref tn_17, .ref tn_18, .ref tnt]))] sz) [(ob, .inr (7, [.int obv0, .int obv1, .ref obc, .ref ob_3, .int obv4, .ref ob_5, .ref ob_6])), (ob_6, .inl (k 0, 4, .inl obg6)), (tn, .inr (10, [.int tnv0, .int tnv1, .int tnv2, .ref tn_3, .ref tn_4, .ref tn_5, .ref tn_6, .int tnv7, .int tnv8, .ref tn_9, .ref tn_10, .int tnv11, .ref tn_12, .ref tn_13, .ref tn_14, .ref tn_15, .int tnv16, .ref tn_17, .ref tn_18, .ref tnt]))] tZ) (va_A [(ob, .inr (7, [.int obv0, .int obv1, .ref obc, .ref ob_3, .int obv4, .ref ob_5, .ref ob_6])), (ob_6, .inl (k 0, 4, .inl obg6)), (tn, .inr (10, [.int tnv0, .int tnv1, .int tnv2, .ref tn_3, .ref tn_4, .ref tn_5, .ref tn_6, .int tnv7, .int tnv8, .ref tn_9, .ref tn_10, .int tnv11, .ref tn_12, .ref tn_13, .ref tn_14, .ref tn_15, .int tnv16, .ref tn_17, .ref tn_18, .ref tnt]))] sz)) 0 0 (va_A [(ob, .inr (7, [.int obv0, .int obv1, .ref obc, .ref ob_3, .int obv4, .ref ob_5, .ref ob_6])), (ob_6, .inl (k 0, 4, .inl obg6)), (tn, .inr (10, [.int tnv0, .int tnv1, .int tnv2, .ref tn_3, .ref tn_4, .ref tn_5, .ref tn_6, .int tnv7, .int tnv8, .ref tn_9, .ref tn_10, .int tnv11, .ref tn_12, .ref tn_13, .ref tn_14, .ref tn_15, .int tnv16, .ref tn_17, .ref tn_18, .ref tnt]))] sz) := by
  refine Met.ofW (cc := cX7_clerksGate) (maxL := 4) (ret := (some .int)) (by decide +kernel) rfl ?_
  intro p e s m args below meth c s₁ B hml hv
  obtain ⟨rfl, hsz, hP, hK, hD0, hN⟩ := hv
  have hx := B.exec
  have hb := B.bytes
  have hr := B.returns
  have hts : ∀ w ∈ TT, w.before _ s = true := fun w h => atoms_spec (ws := ww yX7_clerksGate cX7_clerksGate 4 (some .int)) B.pre w (List.mem_cons_of_mem _ h)
  have hown : s.vm.findClass RX7 = some m.cls := findClass_of_methodNamed B.named
  have hlocks := B.notSynchronized
  subst hsz
  have hD := hD0.self (sz := s.heap.size)
  generalize hAe : va_A [(ob, .inr (7, [.int obv0, .int obv1, .ref obc, .ref ob_3, .int obv4, .ref ob_5, .ref ob_6])), (ob_6, .inl (k 0, 4, .inl obg6)), (tn, .inr (10, [.int tnv0, .int tnv1, .int tnv2, .ref tn_3, .ref tn_4, .ref tn_5, .ref tn_6, .int tnv7, .int tnv8, .ref tn_9, .ref tn_10, .int tnv11, .ref tn_12, .ref tn_13, .ref tn_14, .ref tn_15, .int tnv16, .ref tn_17, .ref tn_18, .ref tnt]))] s.heap.size = A at hD ⊢
  have hA : ∀ q : Nat, s.heap.size ≤ q → A q := fun q h => by rw [← hAe]; exact Or.inr h
  have hS : va_S A s.heap s.heap [] := va_S.rf
  have hl := lv_entry ([.ref ob, .ref tn]) (n := 4) (Nat.le_of_ble_eq_true rfl)
  rw [lg_entry_eq]
  generalize (lg_sl ([.ref ob, .ref tn]) ++ List.replicate (4 - (lg_sl ([.ref ob, .ref tn])).length) Slot.unset).toArray = ls at hl ⊢
  have hl : lv_has ls 4 [(0, .ref ob), (1, .ref tn)] := hl
  refine lv_iconst (v := (-1)) hx hb dX7_clerksGate_0 (by decide) ?_
  refine lv_istore_n (lv' := [(2, .int (-1)), (0, .ref ob), (1, .ref tn)]) hx hb dX7_clerksGate_1 rfl hl (by decide) rfl (fun ls hl => ?_)
  refine lv_iconst (v := 0) hx hb dX7_clerksGate_2 (by decide) ?_
  refine lv_istore_n (lv' := [(3, .int 0), (2, .int (-1)), (0, .ref ob), (1, .ref tn)]) hx hb dX7_clerksGate_3 rfl hl (by decide) rfl (fun ls hl => ?_)
  refine loop_r (Wg := fun H locs ls => W p l e _ s m _ below meth c H locs _ _ _ (F0 m 4 ls [])) (fun n9 H locs ls => ∃ (L4l2 : Int32) (L4l3 : Int32), n9 = (4 - L4l3.toInt).toNat ∧ ((-1) ≤ L4l2.toInt ∧ L4l2.toInt ≤ 3) ∧ (0 ≤ L4l3.toInt ∧ L4l3.toInt ≤ 4) ∧ va_P D vwCl [(ob, .inr (7, [.int obv0, .int obv1, .ref obc, .ref ob_3, .int obv4, .ref ob_5, .ref ob_6])), (ob_6, .inl (k 0, 4, .inl obg6)), (tn, .inr (10, [.int tnv0, .int tnv1, .int tnv2, .ref tn_3, .ref tn_4, .ref tn_5, .ref tn_6, .int tnv7, .int tnv8, .ref tn_9, .ref tn_10, .int tnv11, .ref tn_12, .ref tn_13, .ref tn_14, .ref tn_15, .int tnv16, .ref tn_17, .ref tn_18, .ref tnt]))] H ∧ va_D A [(ob, .inr (7, [.int obv0, .int obv1, .ref obc, .ref ob_3, .int obv4, .ref ob_5, .ref ob_6])), (ob_6, .inl (k 0, 4, .inl obg6)), (tn, .inr (10, [.int tnv0, .int tnv1, .int tnv2, .ref tn_3, .ref tn_4, .ref tn_5, .ref tn_6, .int tnv7, .int tnv8, .ref tn_9, .ref tn_10, .int tnv11, .ref tn_12, .ref tn_13, .ref tn_14, .ref tn_15, .int tnv16, .ref tn_17, .ref tn_18, .ref tnt]))] ∧ va_S A s.heap H locs ∧ lv_has ls 4 [(0, .ref ob), (1, .ref tn), (2, .int L4l2), (3, .int L4l3)]) (fun n9 H locs ls hI ih_1 => ?_) _ _ _ _ ⟨(-1), 0, rfl, (show (-1) ≤ (-1) ∧ (-1) ≤ 3 from by omega), (show 0 ≤ 0 ∧ 0 ≤ 4 from by omega), hP.sub (ws' := [(ob, .inr (7, [.int obv0, .int obv1, .ref obc, .ref ob_3, .int obv4, .ref ob_5, .ref ob_6])), (ob_6, .inl (k 0, 4, .inl obg6)), (tn, .inr (10, [.int tnv0, .int tnv1, .int tnv2, .ref tn_3, .ref tn_4, .ref tn_5, .ref tn_6, .int tnv7, .int tnv8, .ref tn_9, .ref tn_10, .int tnv11, .ref tn_12, .ref tn_13, .ref tn_14, .ref tn_15, .int tnv16, .ref tn_17, .ref tn_18, .ref tnt]))]) [0, 1, 2] rfl, hD.sub (ws' := [(ob, .inr (7, [.int obv0, .int obv1, .ref obc, .ref ob_3, .int obv4, .ref ob_5, .ref ob_6])), (ob_6, .inl (k 0, 4, .inl obg6)), (tn, .inr (10, [.int tnv0, .int tnv1, .int tnv2, .ref tn_3, .ref tn_4, .ref tn_5, .ref tn_6, .int tnv7, .int tnv8, .ref tn_9, .ref tn_10, .int tnv11, .ref tn_12, .ref tn_13, .ref tn_14, .ref tn_15, .int tnv16, .ref tn_17, .ref tn_18, .ref tnt]))]) [0, 1, 2] (by decide +kernel) rfl, hS, lv_sub hl [2, 3, 1, 0] rfl⟩
  clear hP hD hS hl
  obtain ⟨L4l2, L4l3, en_2, zL4l2, zL4l3, hP, hD, hS, hl⟩ := hI
  refine lv_iload_n hx hb dX7_clerksGate_4 rfl (lv_at hl 3 rfl) ?_
  refine lv_aload_n hx hb dX7_clerksGate_5 rfl (lv_at hl 1 rfl) ?_
  refine va_get (D := D) (ci := 10) (v := .int tnv8) (C := RX10) (T := TX10) (N := 20) hx hb hts iT_X10 hown hK hP 2 rfl rfl 8 (by decide) (hts _ tw_1_107) (fun _ h9 => h9) rfl dX7_clerksGate_6 ?_
  refine lv_icmp_ge (tgt := 40) hx hb dX7_clerksGate_9 (by decide) (fun h_3 => ?_) (fun h_3 => ?_)
  · skip
    have zh_3 : tnv8.toInt ≤ L4l3.toInt := z_le h_3
    refine lv_iload_n hx hb dX7_clerksGate_40 rfl (lv_at hl 2 rfl) ?_
    obtain ⟨hP9, hD9⟩ := sub2 hP hD (ws' := [(ob, .inr (7, [.int obv0, .int obv1, .ref obc, .ref ob_3, .int obv4, .ref ob_5, .ref ob_6])), (ob_6, .inl (k 0, 4, .inl obg6)), (tn, .inr (10, [.int tnv0, .int tnv1, .int tnv2, .ref tn_3, .ref tn_4, .ref tn_5, .ref tn_6, .int tnv7, .int tnv8, .ref tn_9, .ref tn_10, .int tnv11, .ref tn_12, .ref tn_13, .ref tn_14, .ref tn_15, .int tnv16, .ref tn_17, .ref tn_18, .ref tnt]))]) [0, 1, 2] (by decide +kernel) rfl
    exact W.iret (v := L4l2) hx hb hr (fun tZ ht hW => ⟨⟨L4l2, (), rfl, (show (-1) ≤ L4l2.toInt ∧ L4l2.toInt ≤ 3 from by omega), by rw [ht]; exact hP9, va_K.moved hW.alike hK, hD9⟩, hS.F ht⟩) hS.2.2 dX7_clerksGate_41
  · skip
    have zh_3 : L4l3.toInt < tnv8.toInt := z_nle h_3
    refine lv_iload_n hx hb dX7_clerksGate_12 rfl (lv_at hl 2 rfl) ?_
    refine lv_iconst (v := (-1)) hx hb dX7_clerksGate_13 (by decide) ?_
    refine lv_icmp_eq (tgt := 32) hx hb dX7_clerksGate_14 (by decide) (fun h_4 => ?_) (fun h_4 => ?_)
    · skip
      have zh_4 : L4l2.toInt = (-1) := z_eq h_4
      refine lv_iload_n hx hb dX7_clerksGate_32 rfl (lv_at hl 3 rfl) ?_
      refine lv_istore_n (lv' := [(2, .int L4l3), (0, .ref ob), (1, .ref tn), (3, .int L4l3)]) hx hb dX7_clerksGate_33 rfl hl (by decide) rfl (fun ls hl => ?_)
      obtain ⟨x_5, ex_5⟩ : ∃ y : Int32, y = L4l3 + 1 := ⟨_, rfl⟩
      have zx_5 : x_5.toInt = L4l3.toInt + 1 := by rw [ex_5]; exact z_add rfl rfl (by omega) (by omega)
      refine lv_iinc (v := x_5) (lv' := [(3, .int x_5), (2, .int L4l3), (0, .ref ob), (1, .ref tn)]) hx hb dX7_clerksGate_34 hl (k := 3) rfl (by rw [ex_5]; rfl) (by decide) rfl (fun ls hl => ?_)
      refine lv_goto (tgt := 4) hx hb dX7_clerksGate_37 (by decide) ?_
      exact ih_1 _ _ _ _ (by omega) ⟨L4l3, x_5, rfl, (show (-1) ≤ L4l3.toInt ∧ L4l3.toInt ≤ 3 from by omega), (show 0 ≤ x_5.toInt ∧ x_5.toInt ≤ 4 from by omega), hP.sub (ws' := [(ob, .inr (7, [.int obv0, .int obv1, .ref obc, .ref ob_3, .int obv4, .ref ob_5, .ref ob_6])), (ob_6, .inl (k 0, 4, .inl obg6)), (tn, .inr (10, [.int tnv0, .int tnv1, .int tnv2, .ref tn_3, .ref tn_4, .ref tn_5, .ref tn_6, .int tnv7, .int tnv8, .ref tn_9, .ref tn_10, .int tnv11, .ref tn_12, .ref tn_13, .ref tn_14, .ref tn_15, .int tnv16, .ref tn_17, .ref tn_18, .ref tnt]))]) [0, 1, 2] rfl, hD.sub (ws' := [(ob, .inr (7, [.int obv0, .int obv1, .ref obc, .ref ob_3, .int obv4, .ref ob_5, .ref ob_6])), (ob_6, .inl (k 0, 4, .inl obg6)), (tn, .inr (10, [.int tnv0, .int tnv1, .int tnv2, .ref tn_3, .ref tn_4, .ref tn_5, .ref tn_6, .int tnv7, .int tnv8, .ref tn_9, .ref tn_10, .int tnv11, .ref tn_12, .ref tn_13, .ref tn_14, .ref tn_15, .int tnv16, .ref tn_17, .ref tn_18, .ref tnt]))]) [0, 1, 2] (by decide +kernel) rfl, hS, lv_sub hl [2, 3, 1, 0] rfl⟩
    · skip
      have zh_4 : ¬ L4l2.toInt = (-1) := z_ne h_4
      refine lv_aload_n hx hb dX7_clerksGate_17 rfl (lv_at hl 0 rfl) ?_
      refine va_get (D := D) (ci := 7) (v := .ref ob_6) (C := RX7) (T := TX7) (N := 7) hx hb hts iT_X7 hown hK hP 0 rfl rfl 6 (by decide) (hts _ tw_2_72) (fun _ h9 => h9) rfl dX7_clerksGate_18 ?_
      refine lv_iload_n hx hb dX7_clerksGate_21 rfl (lv_at hl 3 rfl) ?_
      refine va_iald hx hb hK hP 1 0 rfl rfl (z_in (by omega) (by omega)) dX7_clerksGate_22 ?_
      refine lv_topi (fun x_6 ex_6 => ?_)
      refine lv_aload_n hx hb dX7_clerksGate_23 rfl (lv_at hl 0 rfl) ?_
      refine va_get (D := D) (ci := 7) (v := .ref ob_6) (C := RX7) (T := TX7) (N := 7) hx hb hts iT_X7 hown hK hP 0 rfl rfl 6 (by decide) (hts _ tw_2_72) (fun _ h9 => h9) rfl dX7_clerksGate_24 ?_
      refine lv_iload_n hx hb dX7_clerksGate_27 rfl (lv_at hl 2 rfl) ?_
      refine va_iald hx hb hK hP 1 0 rfl rfl (z_in (by omega) (by omega)) dX7_clerksGate_28 ?_
      refine lv_topi (fun x_7 ex_7 => ?_)
      refine lv_icmp_ge (tgt := 34) hx hb dX7_clerksGate_29 (by decide) (fun h_8 => ?_) (fun h_8 => ?_)
      · skip
        have zh_8 : x_7.toInt ≤ x_6.toInt := z_le h_8
        obtain ⟨x_9, ex_9⟩ : ∃ y : Int32, y = L4l3 + 1 := ⟨_, rfl⟩
        have zx_9 : x_9.toInt = L4l3.toInt + 1 := by rw [ex_9]; exact z_add rfl rfl (by omega) (by omega)
        refine lv_iinc (v := x_9) (lv' := [(3, .int x_9), (0, .ref ob), (1, .ref tn), (2, .int L4l2)]) hx hb dX7_clerksGate_34 hl (k := 3) rfl (by rw [ex_9]; rfl) (by decide) rfl (fun ls hl => ?_)
        refine lv_goto (tgt := 4) hx hb dX7_clerksGate_37 (by decide) ?_
        exact ih_1 _ _ _ _ (by omega) ⟨L4l2, x_9, rfl, (show (-1) ≤ L4l2.toInt ∧ L4l2.toInt ≤ 3 from by omega), (show 0 ≤ x_9.toInt ∧ x_9.toInt ≤ 4 from by omega), hP.sub (ws' := [(ob, .inr (7, [.int obv0, .int obv1, .ref obc, .ref ob_3, .int obv4, .ref ob_5, .ref ob_6])), (ob_6, .inl (k 0, 4, .inl obg6)), (tn, .inr (10, [.int tnv0, .int tnv1, .int tnv2, .ref tn_3, .ref tn_4, .ref tn_5, .ref tn_6, .int tnv7, .int tnv8, .ref tn_9, .ref tn_10, .int tnv11, .ref tn_12, .ref tn_13, .ref tn_14, .ref tn_15, .int tnv16, .ref tn_17, .ref tn_18, .ref tnt]))]) [0, 1, 2] rfl, hD.sub (ws' := [(ob, .inr (7, [.int obv0, .int obv1, .ref obc, .ref ob_3, .int obv4, .ref ob_5, .ref ob_6])), (ob_6, .inl (k 0, 4, .inl obg6)), (tn, .inr (10, [.int tnv0, .int tnv1, .int tnv2, .ref tn_3, .ref tn_4, .ref tn_5, .ref tn_6, .int tnv7, .int tnv8, .ref tn_9, .ref tn_10, .int tnv11, .ref tn_12, .ref tn_13, .ref tn_14, .ref tn_15, .int tnv16, .ref tn_17, .ref tn_18, .ref tnt]))]) [0, 1, 2] (by decide +kernel) rfl, hS, lv_sub hl [1, 2, 3, 0] rfl⟩
      · skip
        have zh_8 : x_6.toInt < x_7.toInt := z_nle h_8
        refine lv_iload_n hx hb dX7_clerksGate_32 rfl (lv_at hl 3 rfl) ?_
        refine lv_istore_n (lv' := [(2, .int L4l3), (0, .ref ob), (1, .ref tn), (3, .int L4l3)]) hx hb dX7_clerksGate_33 rfl hl (by decide) rfl (fun ls hl => ?_)
        obtain ⟨x_10, ex_10⟩ : ∃ y : Int32, y = L4l3 + 1 := ⟨_, rfl⟩
        have zx_10 : x_10.toInt = L4l3.toInt + 1 := by rw [ex_10]; exact z_add rfl rfl (by omega) (by omega)
        refine lv_iinc (v := x_10) (lv' := [(3, .int x_10), (2, .int L4l3), (0, .ref ob), (1, .ref tn)]) hx hb dX7_clerksGate_34 hl (k := 3) rfl (by rw [ex_10]; rfl) (by decide) rfl (fun ls hl => ?_)
        refine lv_goto (tgt := 4) hx hb dX7_clerksGate_37 (by decide) ?_
        exact ih_1 _ _ _ _ (by omega) ⟨L4l3, x_10, rfl, (show (-1) ≤ L4l3.toInt ∧ L4l3.toInt ≤ 3 from by omega), (show 0 ≤ x_10.toInt ∧ x_10.toInt ≤ 4 from by omega), hP.sub (ws' := [(ob, .inr (7, [.int obv0, .int obv1, .ref obc, .ref ob_3, .int obv4, .ref ob_5, .ref ob_6])), (ob_6, .inl (k 0, 4, .inl obg6)), (tn, .inr (10, [.int tnv0, .int tnv1, .int tnv2, .ref tn_3, .ref tn_4, .ref tn_5, .ref tn_6, .int tnv7, .int tnv8, .ref tn_9, .ref tn_10, .int tnv11, .ref tn_12, .ref tn_13, .ref tn_14, .ref tn_15, .int tnv16, .ref tn_17, .ref tn_18, .ref tnt]))]) [0, 1, 2] rfl, hD.sub (ws' := [(ob, .inr (7, [.int obv0, .int obv1, .ref obc, .ref ob_3, .int obv4, .ref ob_5, .ref ob_6])), (ob_6, .inl (k 0, 4, .inl obg6)), (tn, .inr (10, [.int tnv0, .int tnv1, .int tnv2, .ref tn_3, .ref tn_4, .ref tn_5, .ref tn_6, .int tnv7, .int tnv8, .ref tn_9, .ref tn_10, .int tnv11, .ref tn_12, .ref tn_13, .ref tn_14, .ref tn_15, .int tnv16, .ref tn_17, .ref tn_18, .ref tnt]))]) [0, 1, 2] (by decide +kernel) rfl, hS, lv_sub hl [2, 3, 1, 0] rfl⟩
set_option maxHeartbeats 4000000 in
set_option maxRecDepth 100000 in
theorem c_X8_stands (l : Launch) (D : va_G) (k : Nat → ClassId) (ob : Nat) (p0 : Int32) (ob_0 : Nat) (ob_1 : Nat) (ob_2 : Nat) (obv3 : Int32) (sz : Nat) : Met l yX8_stands (ww yX8_stands cX8_stands 2 (some .boolean)) ({ frames := 0, cells := 0, slots := 0, locals := 0 }) (Pre0 D k [(ob, .inr (8, [.ref ob_0, .ref ob_1, .ref ob_2, .int obv3]))] sz [.ref ob, .int p0]) (va_Qi (fun (r : Int32) (_ : Unit) => (0 ≤ r.toInt ∧ r.toInt ≤ 1) ∧ ((r.toInt = 1 ∧ oneBit obv3 p0) ∨ (r.toInt = 0 ∧ ¬ oneBit obv3 p0))) (fun (_ : Unit) tZ => Bw D k (va_A [(ob, .inr (8, [.ref ob_0, .ref ob_1, .ref ob_2, .int obv3]))] sz) [(ob, .inr (8, [.ref ob_0, .ref ob_1, .ref ob_2, .int obv3]))] tZ) (va_A [(ob, .inr (8, [.ref ob_0, .ref ob_1, .ref ob_2, .int obv3]))] sz)) 0 0 (va_A [(ob, .inr (8, [.ref ob_0, .ref ob_1, .ref ob_2, .int obv3]))] sz) := by
  refine Met.ofW (cc := cX8_stands) (maxL := 2) (ret := (some .boolean)) (by decide +kernel) rfl ?_
  intro p e s m args below meth c s₁ B hml hv
  obtain ⟨rfl, hsz, hP, hK, hD0, hN⟩ := hv
  have hx := B.exec
  have hb := B.bytes
  have hr := B.returns
  have hts : ∀ w ∈ TT, w.before _ s = true := fun w h => atoms_spec (ws := ww yX8_stands cX8_stands 2 (some .boolean)) B.pre w (List.mem_cons_of_mem _ h)
  have hown : s.vm.findClass RX8 = some m.cls := findClass_of_methodNamed B.named
  have hlocks := B.notSynchronized
  subst hsz
  have hD := hD0.self (sz := s.heap.size)
  generalize hAe : va_A [(ob, .inr (8, [.ref ob_0, .ref ob_1, .ref ob_2, .int obv3]))] s.heap.size = A at hD ⊢
  have hA : ∀ q : Nat, s.heap.size ≤ q → A q := fun q h => by rw [← hAe]; exact Or.inr h
  have hS : va_S A s.heap s.heap [] := va_S.rf
  have hl := lv_entry ([.ref ob, .int p0]) (n := 2) (Nat.le_of_ble_eq_true rfl)
  rw [lg_entry_eq]
  generalize (lg_sl ([.ref ob, .int p0]) ++ List.replicate (2 - (lg_sl ([.ref ob, .int p0])).length) Slot.unset).toArray = ls at hl ⊢
  have hl : lv_has ls 2 [(0, .ref ob), (1, .int p0)] := hl
  refine lv_aload_n hx hb dX8_stands_0 rfl (lv_at hl 0 rfl) ?_
  refine va_get (D := D) (ci := 8) (v := .int obv3) (C := RX8) (T := TX8) (N := 4) hx hb hts iT_X8 hown hK hP 0 rfl rfl 3 (by decide) (hts _ tw_2_0) (fun _ h9 => h9) rfl dX8_stands_1 ?_
  refine lv_iload_n hx hb dX8_stands_4 rfl (lv_at hl 1 rfl) ?_
  refine lv_ishr hx hb dX8_stands_5 ?_
  refine lv_topi (fun x_1 ex_1 => ?_)
  have zrobv3 := z_rng obv3
  have zrp0 := z_rng p0
  refine lv_iconst (v := 1) hx hb dX8_stands_6 (by decide) ?_
  refine lv_iand hx hb dX8_stands_7 ?_
  refine lv_topi (fun x_2 ex_2 => ?_)
  have zrx_1 := z_rng x_1
  have zx_2 : 0 ≤ x_2.toInt ∧ x_2.toInt < 2 := by rw [ex_2]; exact z_and _ 1 2 rfl rfl (by decide)
  refine lv_iconst (v := 1) hx hb dX8_stands_8 (by decide) ?_
  refine lv_icmp_ne (tgt := 16) hx hb dX8_stands_9 (by decide) (fun h_3 => ?_) (fun h_3 => ?_)
  · skip
    have zh_3 : ¬ x_2.toInt = 1 := z_ne h_3
    refine lv_iconst (v := 0) hx hb dX8_stands_16 (by decide) ?_
    obtain ⟨hP9, hD9⟩ := sub2 hP hD (ws' := [(ob, .inr (8, [.ref ob_0, .ref ob_1, .ref ob_2, .int obv3]))]) [0] (by decide +kernel) rfl
    exact W.zret (v := 0) hx hb hr (by decide) (fun tZ ht hW => ⟨⟨0, (), rfl, ⟨(show 0 ≤ 0 ∧ 0 ≤ 1 from by omega), (Or.inr ⟨rfl, show ¬ oneBit obv3 p0 from by unfold oneBit; rw [← ex_1, ← ex_2]; exact h_3⟩)⟩, by rw [ht]; exact hP9, va_K.moved hW.alike hK, hD9⟩, hS.F ht⟩) hS.2.2 dX8_stands_17
  · skip
    have zh_3 : x_2.toInt = 1 := z_eq h_3
    refine lv_iconst (v := 1) hx hb dX8_stands_12 (by decide) ?_
    refine lv_goto (tgt := 17) hx hb dX8_stands_13 (by decide) ?_
    obtain ⟨hP9, hD9⟩ := sub2 hP hD (ws' := [(ob, .inr (8, [.ref ob_0, .ref ob_1, .ref ob_2, .int obv3]))]) [0] (by decide +kernel) rfl
    exact W.zret (v := 1) hx hb hr (by decide) (fun tZ ht hW => ⟨⟨1, (), rfl, ⟨(show 0 ≤ 1 ∧ 1 ≤ 1 from by omega), (Or.inl ⟨rfl, show oneBit obv3 p0 from by unfold oneBit; rw [← ex_1, ← ex_2]; exact h_3⟩)⟩, by rw [ht]; exact hP9, va_K.moved hW.alike hK, hD9⟩, hS.F ht⟩) hS.2.2 dX8_stands_17
set_option maxHeartbeats 4000000 in
set_option maxRecDepth 100000 in
theorem c_X8_standing (l : Launch) (D : va_G) (k : Nat → ClassId) (ob : Nat) (ob_0 : Nat) (ob_1 : Nat) (ob_2 : Nat) (obv3 : Int32) (sz : Nat) : Met l yX8_standing (ww yX8_standing cX8_standing 1 (some .int)) ({ frames := 1, cells := 0, slots := 0, locals := 20 }) (Pre0 D k [(ob, .inr (8, [.ref ob_0, .ref ob_1, .ref ob_2, .int obv3]))] sz [.ref ob]) (va_Qi (fun (r : Int32) (_ : Unit) => (0 ≤ r.toInt ∧ r.toInt ≤ 63)) (fun (_ : Unit) tZ => Bw D k (va_A [(ob, .inr (8, [.ref ob_0, .ref ob_1, .ref ob_2, .int obv3]))] sz) [(ob, .inr (8, [.ref ob_0, .ref ob_1, .ref ob_2, .int obv3]))] tZ) (va_A [(ob, .inr (8, [.ref ob_0, .ref ob_1, .ref ob_2, .int obv3]))] sz)) 0 0 (va_A [(ob, .inr (8, [.ref ob_0, .ref ob_1, .ref ob_2, .int obv3]))] sz) := by
  refine Met.ofW (cc := cX8_standing) (maxL := 1) (ret := (some .int)) (by decide +kernel) rfl ?_
  intro p e s m args below meth c s₁ B hml hv
  obtain ⟨rfl, hsz, hP, hK, hD0, hN⟩ := hv
  have hx := B.exec
  have hb := B.bytes
  have hr := B.returns
  have hts : ∀ w ∈ TT, w.before _ s = true := fun w h => atoms_spec (ws := ww yX8_standing cX8_standing 1 (some .int)) B.pre w (List.mem_cons_of_mem _ h)
  have hown : s.vm.findClass RX8 = some m.cls := findClass_of_methodNamed B.named
  have hlocks := B.notSynchronized
  subst hsz
  have hD := hD0.self (sz := s.heap.size)
  generalize hAe : va_A [(ob, .inr (8, [.ref ob_0, .ref ob_1, .ref ob_2, .int obv3]))] s.heap.size = A at hD ⊢
  have hA : ∀ q : Nat, s.heap.size ≤ q → A q := fun q h => by rw [← hAe]; exact Or.inr h
  have hS : va_S A s.heap s.heap [] := va_S.rf
  have hl := lv_entry ([.ref ob]) (n := 1) (Nat.le_of_ble_eq_true rfl)
  rw [lg_entry_eq]
  generalize (lg_sl ([.ref ob]) ++ List.replicate (1 - (lg_sl ([.ref ob])).length) Slot.unset).toArray = ls at hl ⊢
  have hl : lv_has ls 1 [(0, .ref ob)] := hl
  refine lv_aload_n hx hb dX8_standing_0 rfl (lv_at hl 0 rfl) ?_
  refine va_get (D := D) (ci := 8) (v := .int obv3) (C := RX8) (T := TX8) (N := 4) hx hb hts iT_X8 hown hK hP 0 rfl rfl 3 (by decide) (hts _ tw_2_0) (fun _ h9 => h9) rfl dX8_standing_1 ?_
  obtain ⟨hPc, hDc, hFc⟩ := sub3 hP hD hS hA (ws' := []) [] (by decide +kernel) rfl
  refine va_calli (va_runS (As := [.int obv3]) (rest := []) ⟨hx, hb, hml, hown, hts⟩ (c_J6_bitCount_0f7a4 l D k obv3 s.heap.size) (va_cwS 1 hts (gS tw_5_233 tw_4_101 tw_1_20 tw_4_102) rfl rfl rfl hdS_J6_bitCount_0f7a4 ⟨Nat.le_of_ble_eq_true rfl, Nat.le_of_ble_eq_true rfl⟩) (cz_S hK hPc hDc hN [.int obv3]) rfl rfl hl.1 rfl (lv_room (Nat.le_of_ble_eq_true rfl)) dX8_standing_4 ⟨Nat.le_of_ble_eq_true rfl, Nat.le_of_ble_eq_true rfl⟩) hS (fun q _ h => hFc q h) hFc (fun r_1 uZ tZ H1 locs ht hvm hw hB hz1 hk1 hS => ?_)
  obtain ⟨hP1, hK1, hD1⟩ := hB
  rw [ht] at hP1
  obtain ⟨hP, hD⟩ := va_join (wr := [(ob, .inr (8, [.ref ob_0, .ref ob_1, .ref ob_2, .int obv3]))]) (w1 := []) hP hD [] [0] rfl rfl (by decide +kernel) (by decide +kernel) hk1 hFc hP1 hD1
  clear hK1 hP1 hD1 hPc hDc hFc
  clear hk1 hz1 ht hvm
  have hP : va_P D vwCl [(ob, .inr (8, [.ref ob_0, .ref ob_1, .ref ob_2, .int obv3]))] H1 := hP
  have hD : va_D A [(ob, .inr (8, [.ref ob_0, .ref ob_1, .ref ob_2, .int obv3]))] := hD
  generalize H1 = H at hP hS ⊢
  have hw_2 : (0 ≤ r_1.toInt ∧ r_1.toInt ≤ 63) := hw
  have hw_3 := hw_2
  clear hw
  obtain ⟨hP9, hD9⟩ := sub2 hP hD (ws' := [(ob, .inr (8, [.ref ob_0, .ref ob_1, .ref ob_2, .int obv3]))]) [0] (by decide +kernel) rfl
  exact W.iret (v := r_1) hx hb hr (fun tZ ht hW => ⟨⟨r_1, (), rfl, (show 0 ≤ r_1.toInt ∧ r_1.toInt ≤ 63 from by omega), by rw [ht]; exact hP9, va_K.moved hW.alike hK, hD9⟩, hS.F ht⟩) hS.2.2 dX8_standing_7
set_option maxHeartbeats 4000000 in
set_option maxRecDepth 100000 in
theorem c_X8_make (l : Launch) (D : va_G) (k : Nat → ClassId) (ob : Nat) (p0 : Int32) (p1 : Int32) (p2 : Int32) (ob_0 : Nat) (ob_1 : Nat) (ob_2 : Nat) (obv3 : Int32) (obg0 : Nat → Int64) (obg1 : Nat → Int32) (obg2 : Nat → Int32) (sz : Nat) (h_p0 : 0 ≤ p0.toInt ∧ p0.toInt ≤ 3) (h_p2 : 0 ≤ p2.toInt ∧ p2.toInt ≤ 60) (hp_obg1_0 : PR 4 1 0 0 60 obg1) : Met l yX8_make (ww yX8_make cX8_make 5 none) ({ frames := 1, cells := 0, slots := 0, locals := 20 }) (Pre0 D k [(ob, .inr (8, [.ref ob_0, .ref ob_1, .ref ob_2, .int obv3])), (ob_0, .inl (k 2, 240, .inr (.inl obg0))), (ob_1, .inl (k 0, 4, .inl obg1)), (ob_2, .inl (k 0, 4, .inl obg2))] sz [.ref ob, .int p0, .int p1, .int p2]) (va_Qv (fun (u : Int32 × (Nat → Int64) × (Nat → Int32) × (Nat → Int32)) => match u with | (obv3z, obg0z, obg1z, obg2z) => (PR 4 1 0 0 60 obg1z) ∧ (obv3z = obv3 ||| (1 <<< (p0 &&& 31)) ∧ obg2z = upd obg2 p0.toNatClampNeg p1 ∧ obg1z = upd obg1 p0.toNatClampNeg p2)) (fun (u : Int32 × (Nat → Int64) × (Nat → Int32) × (Nat → Int32)) tZ => match u with | (obv3z, obg0z, obg1z, obg2z) => Bw D k (va_A [(ob, .inr (8, [.ref ob_0, .ref ob_1, .ref ob_2, .int obv3])), (ob_0, .inl (k 2, 240, .inr (.inl obg0))), (ob_1, .inl (k 0, 4, .inl obg1)), (ob_2, .inl (k 0, 4, .inl obg2))] sz) [(ob, .inr (8, [.ref ob_0, .ref ob_1, .ref ob_2, .int obv3z])), (ob_0, .inl (k 2, 240, .inr (.inl obg0z))), (ob_1, .inl (k 0, 4, .inl obg1z)), (ob_2, .inl (k 0, 4, .inl obg2z))] tZ) (va_A [(ob, .inr (8, [.ref ob_0, .ref ob_1, .ref ob_2, .int obv3])), (ob_0, .inl (k 2, 240, .inr (.inl obg0))), (ob_1, .inl (k 0, 4, .inl obg1)), (ob_2, .inl (k 0, 4, .inl obg2))] sz)) 0 0 (va_A [(ob, .inr (8, [.ref ob_0, .ref ob_1, .ref ob_2, .int obv3])), (ob_0, .inl (k 2, 240, .inr (.inl obg0))), (ob_1, .inl (k 0, 4, .inl obg1)), (ob_2, .inl (k 0, 4, .inl obg2))] sz) := by
  refine Met.ofW (cc := cX8_make) (maxL := 5) (ret := none) (by decide +kernel) rfl ?_
  intro p e s m args below meth c s₁ B hml hv
  obtain ⟨rfl, hsz, hP, hK, hD0, hN⟩ := hv
  have hx := B.exec
  have hb := B.bytes
  have hr := B.returns
  have hts : ∀ w ∈ TT, w.before _ s = true := fun w h => atoms_spec (ws := ww yX8_make cX8_make 5 none) B.pre w (List.mem_cons_of_mem _ h)
  have hown : s.vm.findClass RX8 = some m.cls := findClass_of_methodNamed B.named
  have hlocks := B.notSynchronized
  subst hsz
  have hD := hD0.self (sz := s.heap.size)
  generalize hAe : va_A [(ob, .inr (8, [.ref ob_0, .ref ob_1, .ref ob_2, .int obv3])), (ob_0, .inl (k 2, 240, .inr (.inl obg0))), (ob_1, .inl (k 0, 4, .inl obg1)), (ob_2, .inl (k 0, 4, .inl obg2))] s.heap.size = A at hD ⊢
  have hA : ∀ q : Nat, s.heap.size ≤ q → A q := fun q h => by rw [← hAe]; exact Or.inr h
  have hS : va_S A s.heap s.heap [] := va_S.rf
  have hl := lv_entry ([.ref ob, .int p0, .int p1, .int p2]) (n := 5) (Nat.le_of_ble_eq_true rfl)
  rw [lg_entry_eq]
  generalize (lg_sl ([.ref ob, .int p0, .int p1, .int p2]) ++ List.replicate (5 - (lg_sl ([.ref ob, .int p0, .int p1, .int p2])).length) Slot.unset).toArray = ls at hl ⊢
  have hl : lv_has ls 5 [(0, .ref ob), (1, .int p0), (2, .int p1), (3, .int p2)] := hl
  refine lv_iload_n hx hb dX8_make_0 rfl (lv_at hl 1 rfl) ?_
  obtain ⟨hPc, hDc, hFc⟩ := sub3 hP hD hS hA (ws' := []) [] (by decide +kernel) rfl
  refine va_calli (va_runS (As := [.int p0]) (rest := []) ⟨hx, hb, hml, hown, hts⟩ (c_X8_isSlot l D k p0 s.heap.size) (va_cwS 1 hts (gS tw_4_228 tw_4_214 tw_1_5 tw_4_215) rfl rfl rfl hdS_X8_isSlot ⟨Nat.le_of_ble_eq_true rfl, Nat.le_of_ble_eq_true rfl⟩) (cz_S hK hPc hDc hN [.int p0]) rfl rfl hl.1 rfl (lv_room (Nat.le_of_ble_eq_true rfl)) dX8_make_1 ⟨Nat.le_of_ble_eq_true rfl, Nat.le_of_ble_eq_true rfl⟩) hS (fun q _ h => hFc q h) hFc (fun r_1 uZ tZ H1 locs ht hvm hw hB hz1 hk1 hS => ?_)
  obtain ⟨hP1, hK1, hD1⟩ := hB
  rw [ht] at hP1
  obtain ⟨hP, hD⟩ := va_join (wr := [(ob, .inr (8, [.ref ob_0, .ref ob_1, .ref ob_2, .int obv3])), (ob_0, .inl (k 2, 240, .inr (.inl obg0))), (ob_1, .inl (k 0, 4, .inl obg1)), (ob_2, .inl (k 0, 4, .inl obg2))]) (w1 := []) hP hD [] [0, 1, 2, 3] rfl rfl (by decide +kernel) (by decide +kernel) hk1 hFc hP1 hD1
  clear hK1 hP1 hD1 hPc hDc hFc
  clear hk1 hz1 ht hvm
  have hP : va_P D vwCl [(ob, .inr (8, [.ref ob_0, .ref ob_1, .ref ob_2, .int obv3])), (ob_0, .inl (k 2, 240, .inr (.inl obg0))), (ob_1, .inl (k 0, 4, .inl obg1)), (ob_2, .inl (k 0, 4, .inl obg2))] H1 := hP
  have hD : va_D A [(ob, .inr (8, [.ref ob_0, .ref ob_1, .ref ob_2, .int obv3])), (ob_0, .inl (k 2, 240, .inr (.inl obg0))), (ob_1, .inl (k 0, 4, .inl obg1)), (ob_2, .inl (k 0, 4, .inl obg2))] := hD
  generalize H1 = H at hP hS ⊢
  have hw_2 : (0 ≤ r_1.toInt ∧ r_1.toInt ≤ 1) ∧ ((r_1.toInt = 1 ∧ 0 ≤ p0.toInt ∧ p0.toInt ≤ 3) ∨ (r_1.toInt = 0 ∧ (p0.toInt < 0 ∨ 3 < p0.toInt))) := hw
  obtain ⟨hw_3, hw_4⟩ := hw_2
  clear hw
  refine lv_if_eq (tgt := 62) hx hb dX8_make_4 (by decide) (fun h_5 => ?_) (fun h_5 => ?_)
  · skip
    have zh_5 : r_1.toInt = 0 := z_eq h_5
    obtain ⟨hP9, hD9⟩ := sub2 hP hD (ws' := [(ob, .inr (8, [.ref ob_0, .ref ob_1, .ref ob_2, .int obv3])), (ob_0, .inl (k 2, 240, .inr (.inl obg0))), (ob_1, .inl (k 0, 4, .inl obg1)), (ob_2, .inl (k 0, 4, .inl obg2))]) [0, 1, 2, 3] (by decide +kernel) rfl
    exact W.vret hx hb hr (fun tZ ht hW => ⟨⟨(obv3, obg0, obg1, obg2), rfl, ⟨hp_obg1_0, (False.elim (by omega))⟩, by rw [ht]; exact hP9, va_K.moved hW.alike hK, hD9⟩, hS.F ht⟩) hS.2.2 dX8_make_62
  · skip
    have zh_5 : ¬ r_1.toInt = 0 := z_ne h_5
    refine lv_aload_n hx hb dX8_make_7 rfl (lv_at hl 0 rfl) ?_
    refine lv_dup hx hb dX8_make_8 rfl ?_
    refine va_get (D := D) (ci := 8) (v := .int obv3) (C := RX8) (T := TX8) (N := 4) hx hb hts iT_X8 hown hK hP 0 rfl rfl 3 (by decide) (hts _ tw_2_0) (fun _ h9 => h9) rfl dX8_make_9 ?_
    refine lv_iconst (v := 1) hx hb dX8_make_12 (by decide) ?_
    refine lv_iload_n hx hb dX8_make_13 rfl (lv_at hl 1 rfl) ?_
    refine lv_ishl hx hb dX8_make_14 ?_
    refine lv_topi (fun x_6 ex_6 => ?_)
    have zx_6 : 1 ≤ x_6.toInt ∧ x_6.toInt ≤ 8 := by rw [ex_6]; exact z_shl1 3 8 rfl (by decide) (by omega) (by omega)
    refine lv_ior hx hb dX8_make_15 ?_
    refine lv_topi (fun x_7 ex_7 => ?_)
    have zrobv3 := z_rng obv3
    refine va_put (D := D) (ci := 8) (v := .int x_7) (ty := tyX8 3) (C := RX8) (T := TX8) (N := 4) hx hb hts iT_X8 tyX8 tyX8_ok nmX8 hown hK hP hD hS 0 rfl rfl 3 (by decide) (hts _ tw_2_0) (fun _ h9 => h9) rfl (tyX8_ok 3 (by decide)) rfl rfl (Nat.le_of_ble_eq_true rfl) dX8_make_16 (fun H locs hP hD hS => ?_)
    have hP : va_P D vwCl [(ob, .inr (8, [.ref ob_0, .ref ob_1, .ref ob_2, .int x_7])), (ob_0, .inl (k 2, 240, .inr (.inl obg0))), (ob_1, .inl (k 0, 4, .inl obg1)), (ob_2, .inl (k 0, 4, .inl obg2))] H := hP
    have hD : va_D A [(ob, .inr (8, [.ref ob_0, .ref ob_1, .ref ob_2, .int x_7])), (ob_0, .inl (k 2, 240, .inr (.inl obg0))), (ob_1, .inl (k 0, 4, .inl obg1)), (ob_2, .inl (k 0, 4, .inl obg2))] := hD
    refine lv_aload_n hx hb dX8_make_19 rfl (lv_at hl 0 rfl) ?_
    refine va_get (D := D) (ci := 8) (v := .ref ob_2) (C := RX8) (T := TX8) (N := 4) hx hb hts iT_X8 hown hK hP 0 rfl rfl 2 (by decide) (hts _ tw_1_239) (fun _ h9 => h9) rfl dX8_make_20 ?_
    refine lv_iload_n hx hb dX8_make_23 rfl (lv_at hl 1 rfl) ?_
    refine lv_iload_n hx hb dX8_make_24 rfl (lv_at hl 2 rfl) ?_
    refine va_iast hx hb hK hP hD hS 3 0 rfl rfl (z_in (by omega) (by omega)) dX8_make_25 (fun H locs hP hD hS => ?_)
    obtain ⟨g_8, eg_8⟩ : ∃ z : Nat → Int32, upd obg2 p0.toNatClampNeg p1 = z := ⟨_, rfl⟩
    have hP : va_P D vwCl [(ob, .inr (8, [.ref ob_0, .ref ob_1, .ref ob_2, .int x_7])), (ob_0, .inl (k 2, 240, .inr (.inl obg0))), (ob_1, .inl (k 0, 4, .inl obg1)), (ob_2, .inl (k 0, 4, .inl (upd obg2 p0.toNatClampNeg p1)))] H := hP
    have hD : va_D A [(ob, .inr (8, [.ref ob_0, .ref ob_1, .ref ob_2, .int x_7])), (ob_0, .inl (k 2, 240, .inr (.inl obg0))), (ob_1, .inl (k 0, 4, .inl obg1)), (ob_2, .inl (k 0, 4, .inl (upd obg2 p0.toNatClampNeg p1)))] := hD
    rw [eg_8] at hP hD
    refine lv_aload_n hx hb dX8_make_26 rfl (lv_at hl 0 rfl) ?_
    refine va_get (D := D) (ci := 8) (v := .ref ob_1) (C := RX8) (T := TX8) (N := 4) hx hb hts iT_X8 hown hK hP 0 rfl rfl 1 (by decide) (hts _ tw_1_238) (fun _ h9 => h9) rfl dX8_make_27 ?_
    refine lv_iload_n hx hb dX8_make_30 rfl (lv_at hl 1 rfl) ?_
    refine lv_iload_n hx hb dX8_make_31 rfl (lv_at hl 3 rfl) ?_
    refine va_iast hx hb hK hP hD hS 2 0 rfl rfl (z_in (by omega) (by omega)) dX8_make_32 (fun H locs hP hD hS => ?_)
    obtain ⟨g_9, eg_9⟩ : ∃ z : Nat → Int32, upd obg1 p0.toNatClampNeg p2 = z := ⟨_, rfl⟩
    have hP : va_P D vwCl [(ob, .inr (8, [.ref ob_0, .ref ob_1, .ref ob_2, .int x_7])), (ob_0, .inl (k 2, 240, .inr (.inl obg0))), (ob_1, .inl (k 0, 4, .inl (upd obg1 p0.toNatClampNeg p2))), (ob_2, .inl (k 0, 4, .inl g_8))] H := hP
    have hD : va_D A [(ob, .inr (8, [.ref ob_0, .ref ob_1, .ref ob_2, .int x_7])), (ob_0, .inl (k 2, 240, .inr (.inl obg0))), (ob_1, .inl (k 0, 4, .inl (upd obg1 p0.toNatClampNeg p2))), (ob_2, .inl (k 0, 4, .inl g_8))] := hD
    rw [eg_9] at hP hD
    have hp_10 : PR 4 1 0 0 60 g_9 := by rw [← eg_9]; exact PR.put hp_obg1_0 ⟨by omega, by omega⟩
    refine lv_iconst (v := 0) hx hb dX8_make_33 (by decide) ?_
    refine lv_istore (lv' := [(4, .int 0), (0, .ref ob), (1, .int p0), (2, .int p1), (3, .int p2)]) hx hb dX8_make_34 hl (by decide) rfl (fun ls hl => ?_)
    refine loop_r (Wg := fun H locs ls => W p l e _ s m _ below meth c H locs _ _ _ (F0 m 36 ls [])) (fun n9 H locs ls => ∃ (L36l4 : Int32) (L36a1 : Nat → Int64), n9 = (60 - L36l4.toInt).toNat ∧ (0 ≤ L36l4.toInt ∧ L36l4.toInt ≤ 60) ∧ va_P D vwCl [(ob, .inr (8, [.ref ob_0, .ref ob_1, .ref ob_2, .int x_7])), (ob_0, .inl (k 2, 240, .inr (.inl L36a1))), (ob_1, .inl (k 0, 4, .inl g_9)), (ob_2, .inl (k 0, 4, .inl g_8))] H ∧ va_D A [(ob, .inr (8, [.ref ob_0, .ref ob_1, .ref ob_2, .int x_7])), (ob_0, .inl (k 2, 240, .inr (.inl L36a1))), (ob_1, .inl (k 0, 4, .inl g_9)), (ob_2, .inl (k 0, 4, .inl g_8))] ∧ va_S A s.heap H locs ∧ lv_has ls 5 [(0, .ref ob), (1, .int p0), (2, .int p1), (3, .int p2), (4, .int L36l4)]) (fun n9 H locs ls hI ih_11 => ?_) _ _ _ _ ⟨0, obg0, rfl, (show 0 ≤ 0 ∧ 0 ≤ 60 from by omega), hP.sub (ws' := [(ob, .inr (8, [.ref ob_0, .ref ob_1, .ref ob_2, .int x_7])), (ob_0, .inl (k 2, 240, .inr (.inl obg0))), (ob_1, .inl (k 0, 4, .inl g_9)), (ob_2, .inl (k 0, 4, .inl g_8))]) [0, 1, 2, 3] rfl, hD.sub (ws' := [(ob, .inr (8, [.ref ob_0, .ref ob_1, .ref ob_2, .int x_7])), (ob_0, .inl (k 2, 240, .inr (.inl obg0))), (ob_1, .inl (k 0, 4, .inl g_9)), (ob_2, .inl (k 0, 4, .inl g_8))]) [0, 1, 2, 3] (by decide +kernel) rfl, hS, lv_sub hl [1, 2, 3, 4, 0] rfl⟩
    clear hP hD hS hl
    obtain ⟨L36l4, L36a1, en_12, zL36l4, hP, hD, hS, hl⟩ := hI
    refine lv_iload hx hb dX8_make_36 (lv_at hl 4 rfl) ?_
    refine lv_bipush (v := 60) hx hb dX8_make_38 (by decide) ?_
    refine lv_icmp_ge (tgt := 62) hx hb dX8_make_40 (by decide) (fun h_13 => ?_) (fun h_13 => ?_)
    · skip
      have zh_13 : 60 ≤ L36l4.toInt := z_le h_13
      obtain ⟨hP9, hD9⟩ := sub2 hP hD (ws' := [(ob, .inr (8, [.ref ob_0, .ref ob_1, .ref ob_2, .int x_7])), (ob_0, .inl (k 2, 240, .inr (.inl L36a1))), (ob_1, .inl (k 0, 4, .inl g_9)), (ob_2, .inl (k 0, 4, .inl g_8))]) [0, 1, 2, 3] (by decide +kernel) rfl
      exact W.vret hx hb hr (fun tZ ht hW => ⟨⟨(x_7, L36a1, g_9, g_8), rfl, ⟨hp_10, ⟨show x_7 = obv3 ||| (1 <<< (p0 &&& 31)) from by rw [ex_7, ex_6], (eg_8).symm, (eg_9).symm⟩⟩, by rw [ht]; exact hP9, va_K.moved hW.alike hK, hD9⟩, hS.F ht⟩) hS.2.2 dX8_make_62
    · skip
      have zh_13 : L36l4.toInt < 60 := z_nle h_13
      refine lv_aload_n hx hb dX8_make_43 rfl (lv_at hl 0 rfl) ?_
      refine va_get (D := D) (ci := 8) (v := .ref ob_0) (C := RX8) (T := TX8) (N := 4) hx hb hts iT_X8 hown hK hP 0 rfl rfl 0 (by decide) (hts _ tw_1_237) (fun _ h9 => h9) rfl dX8_make_44 ?_
      refine lv_iload_n hx hb dX8_make_47 rfl (lv_at hl 1 rfl) ?_
      refine lv_bipush (v := 60) hx hb dX8_make_48 (by decide) ?_
      refine lv_imul hx hb dX8_make_50 ?_
      refine lv_topi (fun x_14 ex_14 => ?_)
      have zx_14 : x_14.toInt = p0.toInt * 60 := by rw [ex_14]; exact z_mul rfl rfl (by omega) (by omega)
      refine lv_iload hx hb dX8_make_51 (lv_at hl 4 rfl) ?_
      refine lv_iadd hx hb dX8_make_53 ?_
      refine lv_topi (fun x_15 ex_15 => ?_)
      have zx_15 : x_15.toInt = x_14.toInt + L36l4.toInt := by rw [ex_15]; exact z_add rfl rfl (by omega) (by omega)
      refine lv_lconst (v := 0) hx hb dX8_make_54 (by decide) ?_
      refine va_last hx hb hK hP hD hS 1 2 rfl rfl (z_in (by omega) (by omega)) dX8_make_55 (fun H locs hP hD hS => ?_)
      obtain ⟨g_16, eg_16⟩ : ∃ z : Nat → Int64, vp_updL L36a1 x_15.toNatClampNeg 0 = z := ⟨_, rfl⟩
      have hP : va_P D vwCl [(ob, .inr (8, [.ref ob_0, .ref ob_1, .ref ob_2, .int x_7])), (ob_0, .inl (k 2, 240, .inr (.inl (vp_updL L36a1 x_15.toNatClampNeg 0)))), (ob_1, .inl (k 0, 4, .inl g_9)), (ob_2, .inl (k 0, 4, .inl g_8))] H := hP
      have hD : va_D A [(ob, .inr (8, [.ref ob_0, .ref ob_1, .ref ob_2, .int x_7])), (ob_0, .inl (k 2, 240, .inr (.inl (vp_updL L36a1 x_15.toNatClampNeg 0)))), (ob_1, .inl (k 0, 4, .inl g_9)), (ob_2, .inl (k 0, 4, .inl g_8))] := hD
      rw [eg_16] at hP hD
      obtain ⟨x_17, ex_17⟩ : ∃ y : Int32, y = L36l4 + 1 := ⟨_, rfl⟩
      have zx_17 : x_17.toInt = L36l4.toInt + 1 := by rw [ex_17]; exact z_add rfl rfl (by omega) (by omega)
      refine lv_iinc (v := x_17) (lv' := [(4, .int x_17), (0, .ref ob), (1, .int p0), (2, .int p1), (3, .int p2)]) hx hb dX8_make_56 hl (k := 4) rfl (by rw [ex_17]; rfl) (by decide) rfl (fun ls hl => ?_)
      refine lv_goto (tgt := 36) hx hb dX8_make_59 (by decide) ?_
      exact ih_11 _ _ _ _ (by omega) ⟨x_17, g_16, rfl, (show 0 ≤ x_17.toInt ∧ x_17.toInt ≤ 60 from by omega), hP.sub (ws' := [(ob, .inr (8, [.ref ob_0, .ref ob_1, .ref ob_2, .int x_7])), (ob_0, .inl (k 2, 240, .inr (.inl g_16))), (ob_1, .inl (k 0, 4, .inl g_9)), (ob_2, .inl (k 0, 4, .inl g_8))]) [0, 1, 2, 3] rfl, hD.sub (ws' := [(ob, .inr (8, [.ref ob_0, .ref ob_1, .ref ob_2, .int x_7])), (ob_0, .inl (k 2, 240, .inr (.inl g_16))), (ob_1, .inl (k 0, 4, .inl g_9)), (ob_2, .inl (k 0, 4, .inl g_8))]) [0, 1, 2, 3] (by decide +kernel) rfl, hS, lv_sub hl [1, 2, 3, 4, 0] rfl⟩
set_option maxHeartbeats 4000000 in
set_option maxRecDepth 100000 in
theorem c_X8_put (l : Launch) (D : va_G) (k : Nat → ClassId) (ob : Nat) (p0 : Int32) (p1 : Int32) (p2 : Int64) (ob_0 : Nat) (ob_1 : Nat) (ob_2 : Nat) (obv3 : Int32) (obg0 : Nat → Int64) (obg1 : Nat → Int32) (obg2 : Nat → Int32) (sz : Nat) (h_p0 : 0 ≤ p0.toInt ∧ p0.toInt ≤ 3) (hp_obg1_0 : PR 4 1 0 0 60 obg1) : Met l yX8_put (ww yX8_put cX8_put 8 none) ({ frames := 2, cells := 0, slots := 0, locals := 41 }) (Pre0 D k [(ob, .inr (8, [.ref ob_0, .ref ob_1, .ref ob_2, .int obv3])), (ob_0, .inl (k 2, 240, .inr (.inl obg0))), (ob_1, .inl (k 0, 4, .inl obg1)), (ob_2, .inl (k 0, 4, .inl obg2))] sz [.ref ob, .int p0, .int p1, .long p2]) (va_Qv (fun (obg0z : (Nat → Int64)) => True) (fun (obg0z : (Nat → Int64)) tZ => Bw D k (va_A [(ob, .inr (8, [.ref ob_0, .ref ob_1, .ref ob_2, .int obv3])), (ob_0, .inl (k 2, 240, .inr (.inl obg0))), (ob_1, .inl (k 0, 4, .inl obg1)), (ob_2, .inl (k 0, 4, .inl obg2))] sz) [(ob, .inr (8, [.ref ob_0, .ref ob_1, .ref ob_2, .int obv3])), (ob_0, .inl (k 2, 240, .inr (.inl obg0z))), (ob_1, .inl (k 0, 4, .inl obg1)), (ob_2, .inl (k 0, 4, .inl obg2))] tZ) (va_A [(ob, .inr (8, [.ref ob_0, .ref ob_1, .ref ob_2, .int obv3])), (ob_0, .inl (k 2, 240, .inr (.inl obg0))), (ob_1, .inl (k 0, 4, .inl obg1)), (ob_2, .inl (k 0, 4, .inl obg2))] sz)) 0 0 (va_A [(ob, .inr (8, [.ref ob_0, .ref ob_1, .ref ob_2, .int obv3])), (ob_0, .inl (k 2, 240, .inr (.inl obg0))), (ob_1, .inl (k 0, 4, .inl obg1)), (ob_2, .inl (k 0, 4, .inl obg2))] sz) := by
  refine Met.ofW (cc := cX8_put) (maxL := 8) (ret := none) (by decide +kernel) rfl ?_
  intro p e s m args below meth c s₁ B hml hv
  obtain ⟨rfl, hsz, hP, hK, hD0, hN⟩ := hv
  have hx := B.exec
  have hb := B.bytes
  have hr := B.returns
  have hts : ∀ w ∈ TT, w.before _ s = true := fun w h => atoms_spec (ws := ww yX8_put cX8_put 8 none) B.pre w (List.mem_cons_of_mem _ h)
  have hown : s.vm.findClass RX8 = some m.cls := findClass_of_methodNamed B.named
  have hlocks := B.notSynchronized
  subst hsz
  have hD := hD0.self (sz := s.heap.size)
  generalize hAe : va_A [(ob, .inr (8, [.ref ob_0, .ref ob_1, .ref ob_2, .int obv3])), (ob_0, .inl (k 2, 240, .inr (.inl obg0))), (ob_1, .inl (k 0, 4, .inl obg1)), (ob_2, .inl (k 0, 4, .inl obg2))] s.heap.size = A at hD ⊢
  have hA : ∀ q : Nat, s.heap.size ≤ q → A q := fun q h => by rw [← hAe]; exact Or.inr h
  have hS : va_S A s.heap s.heap [] := va_S.rf
  have hl := lv_entry ([.ref ob, .int p0, .int p1, .long p2]) (n := 8) (Nat.le_of_ble_eq_true rfl)
  rw [lg_entry_eq]
  generalize (lg_sl ([.ref ob, .int p0, .int p1, .long p2]) ++ List.replicate (8 - (lg_sl ([.ref ob, .int p0, .int p1, .long p2])).length) Slot.unset).toArray = ls at hl ⊢
  have hl : lv_has ls 8 [(0, .ref ob), (1, .int p0), (2, .int p1), (3, .long p2)] := hl
  refine lv_iload_n hx hb dX8_put_0 rfl (lv_at hl 2 rfl) ?_
  refine lv_if_lt (tgt := 74) hx hb dX8_put_1 (by decide) (fun h_1 => ?_) (fun h_1 => ?_)
  · skip
    have zh_1 : p1.toInt < 0 := z_lt h_1
    obtain ⟨hP9, hD9⟩ := sub2 hP hD (ws' := [(ob, .inr (8, [.ref ob_0, .ref ob_1, .ref ob_2, .int obv3])), (ob_0, .inl (k 2, 240, .inr (.inl obg0))), (ob_1, .inl (k 0, 4, .inl obg1)), (ob_2, .inl (k 0, 4, .inl obg2))]) [0, 1, 2, 3] (by decide +kernel) rfl
    exact W.vret hx hb hr (fun tZ ht hW => ⟨⟨obg0, rfl, trivial, by rw [ht]; exact hP9, va_K.moved hW.alike hK, hD9⟩, hS.F ht⟩) hS.2.2 dX8_put_74
  · skip
    have zh_1 : 0 ≤ p1.toInt := z_nlt h_1
    refine lv_iload_n hx hb dX8_put_4 rfl (lv_at hl 2 rfl) ?_
    refine lv_aload_n hx hb dX8_put_5 rfl (lv_at hl 0 rfl) ?_
    refine lv_iload_n hx hb dX8_put_6 rfl (lv_at hl 1 rfl) ?_
    obtain ⟨hPc, hDc, hFc⟩ := sub3 hP hD hS hA (ws' := [(ob, .inr (8, [.ref ob_0, .ref ob_1, .ref ob_2, .int obv3])), (ob_1, .inl (k 0, 4, .inl obg1))]) [0, 2] (by decide +kernel) rfl
    refine va_calli (va_runV (C := RX8) (As := [.int p0]) (rest := [.int p1]) ⟨hx, hb, hml, hown, hts⟩ (c_X8_length l D k ob p0 ob_0 ob_1 ob_2 obv3 obg1 s.heap.size (show 0 ≤ p0.toInt ∧ p0.toInt ≤ 3 from by omega) hp_obg1_0) (cwV 1 hts (gV tw_4_224 tw_4_225 tw_4_226 tw_1_5 tw_4_227) rfl rfl rfl hdV_X8_length ⟨Nat.le_of_ble_eq_true rfl, Nat.le_of_ble_eq_true rfl⟩) (cz_V hK hPc hDc hN (ci := 8) (q0 := 0) rfl rfl [.int p0]) rfl rfl hl.1 rfl (lv_room (Nat.le_of_ble_eq_true rfl)) dX8_put_7 ⟨Nat.le_of_ble_eq_true rfl, Nat.le_of_ble_eq_true rfl⟩) hS (fun q _ h => hFc q h) hFc (fun r_2 uZ tZ H1 locs ht hvm hw hB hz1 hk1 hS => ?_)
    obtain ⟨hP1, hK1, hD1⟩ := hB
    rw [ht] at hP1
    obtain ⟨hP, hD⟩ := va_join (wr := [(ob_0, .inl (k 2, 240, .inr (.inl obg0))), (ob_2, .inl (k 0, 4, .inl obg2))]) (w1 := [(ob, .inr (8, [.ref ob_0, .ref ob_1, .ref ob_2, .int obv3])), (ob_1, .inl (k 0, 4, .inl obg1))]) hP hD [0, 2] [1, 3] rfl rfl (by decide +kernel) (by decide +kernel) hk1 hFc hP1 hD1
    clear hK1 hP1 hD1 hPc hDc hFc
    clear hk1 hz1 ht hvm
    have hP : va_P D vwCl [(ob_0, .inl (k 2, 240, .inr (.inl obg0))), (ob_2, .inl (k 0, 4, .inl obg2)), (ob, .inr (8, [.ref ob_0, .ref ob_1, .ref ob_2, .int obv3])), (ob_1, .inl (k 0, 4, .inl obg1))] H1 := hP
    have hD : va_D A [(ob_0, .inl (k 2, 240, .inr (.inl obg0))), (ob_2, .inl (k 0, 4, .inl obg2)), (ob, .inr (8, [.ref ob_0, .ref ob_1, .ref ob_2, .int obv3])), (ob_1, .inl (k 0, 4, .inl obg1))] := hD
    generalize H1 = H at hP hS ⊢
    have hw_3 : (0 ≤ r_2.toInt ∧ r_2.toInt ≤ 60) ∧ (r_2 = obg1 p0.toNatClampNeg) := hw
    obtain ⟨hw_4, hw_5⟩ := hw_3
    clear hw
    refine lv_icmp_ge (tgt := 74) hx hb dX8_put_10 (by decide) (fun h_6 => ?_) (fun h_6 => ?_)
    · skip
      have zh_6 : r_2.toInt ≤ p1.toInt := z_le h_6
      obtain ⟨hP9, hD9⟩ := sub2 hP hD (ws' := [(ob, .inr (8, [.ref ob_0, .ref ob_1, .ref ob_2, .int obv3])), (ob_0, .inl (k 2, 240, .inr (.inl obg0))), (ob_1, .inl (k 0, 4, .inl obg1)), (ob_2, .inl (k 0, 4, .inl obg2))]) [2, 0, 3, 1] (by decide +kernel) rfl
      exact W.vret hx hb hr (fun tZ ht hW => ⟨⟨obg0, rfl, trivial, by rw [ht]; exact hP9, va_K.moved hW.alike hK, hD9⟩, hS.F ht⟩) hS.2.2 dX8_put_74
    · skip
      have zh_6 : p1.toInt < r_2.toInt := z_nle h_6
      refine lv_aload_n hx hb dX8_put_13 rfl (lv_at hl 0 rfl) ?_
      refine va_get (D := D) (ci := 8) (v := .ref ob_2) (C := RX8) (T := TX8) (N := 4) hx hb hts iT_X8 hown hK hP 2 rfl rfl 2 (by decide) (hts _ tw_1_239) (fun _ h9 => h9) rfl dX8_put_14 ?_
      refine lv_iload_n hx hb dX8_put_17 rfl (lv_at hl 1 rfl) ?_
      refine va_iald hx hb hK hP 1 0 rfl rfl (z_in (by omega) (by omega)) dX8_put_18 ?_
      refine lv_topi (fun x_7 ex_7 => ?_)
      refine lv_istore (lv' := [(5, .int x_7), (0, .ref ob), (1, .int p0), (2, .int p1), (3, .long p2)]) hx hb dX8_put_19 hl (by decide) rfl (fun ls hl => ?_)
      refine lv_iload hx hb dX8_put_21 (lv_at hl 0 rfl) ?_
      refine lv_if_ne (tgt := 33) hx hb dX8_put_23 (by decide) (fun h_8 => ?_) (fun h_8 => ?_)
      · skip
        have zh_8 : ¬ x_7.toInt = 0 := z_ne h_8
        refine lv_iload hx hb dX8_put_33 (lv_at hl 0 rfl) ?_
        refine lv_iconst (v := 1) hx hb dX8_put_35 (by decide) ?_
        refine lv_icmp_ne (tgt := 46) hx hb dX8_put_36 (by decide) (fun h_9 => ?_) (fun h_9 => ?_)
        · skip
          have zh_9 : ¬ x_7.toInt = 1 := z_ne h_9
          refine lv_iload hx hb dX8_put_46 (lv_at hl 0 rfl) ?_
          refine lv_iconst (v := 2) hx hb dX8_put_48 (by decide) ?_
          refine lv_icmp_ne (tgt := 58) hx hb dX8_put_49 (by decide) (fun h_10 => ?_) (fun h_10 => ?_)
          · skip
            have zh_10 : ¬ x_7.toInt = 2 := z_ne h_10
            refine lv_lload_n hx hb dX8_put_58 rfl (lv_at hl 4 rfl) ?_
            refine lv_lstore (lv' := [(6, .long p2), (5, .int x_7), (0, .ref ob), (1, .int p0), (2, .int p1), (3, .long p2)]) hx hb dX8_put_59 hl (by decide) rfl (fun ls hl => ?_)
            refine lv_aload_n hx hb dX8_put_61 rfl (lv_at hl 2 rfl) ?_
            refine va_get (D := D) (ci := 8) (v := .ref ob_0) (C := RX8) (T := TX8) (N := 4) hx hb hts iT_X8 hown hK hP 2 rfl rfl 0 (by decide) (hts _ tw_1_237) (fun _ h9 => h9) rfl dX8_put_62 ?_
            refine lv_iload_n hx hb dX8_put_65 rfl (lv_at hl 3 rfl) ?_
            refine lv_bipush (v := 60) hx hb dX8_put_66 (by decide) ?_
            refine lv_imul hx hb dX8_put_68 ?_
            refine lv_topi (fun x_11 ex_11 => ?_)
            have zx_11 : x_11.toInt = p0.toInt * 60 := by rw [ex_11]; exact z_mul rfl rfl (by omega) (by omega)
            refine lv_iload_n hx hb dX8_put_69 rfl (lv_at hl 4 rfl) ?_
            refine lv_iadd hx hb dX8_put_70 ?_
            refine lv_topi (fun x_12 ex_12 => ?_)
            have zx_12 : x_12.toInt = x_11.toInt + p1.toInt := by rw [ex_12]; exact z_add rfl rfl (by omega) (by omega)
            refine lv_lload hx hb dX8_put_71 (lv_at hl 0 rfl) ?_
            refine va_last hx hb hK hP hD hS 0 2 rfl rfl (z_in (by omega) (by omega)) dX8_put_73 (fun H locs hP hD hS => ?_)
            obtain ⟨g_13, eg_13⟩ : ∃ z : Nat → Int64, vp_updL obg0 x_12.toNatClampNeg p2 = z := ⟨_, rfl⟩
            have hP : va_P D vwCl [(ob_0, .inl (k 2, 240, .inr (.inl (vp_updL obg0 x_12.toNatClampNeg p2)))), (ob_2, .inl (k 0, 4, .inl obg2)), (ob, .inr (8, [.ref ob_0, .ref ob_1, .ref ob_2, .int obv3])), (ob_1, .inl (k 0, 4, .inl obg1))] H := hP
            have hD : va_D A [(ob_0, .inl (k 2, 240, .inr (.inl (vp_updL obg0 x_12.toNatClampNeg p2)))), (ob_2, .inl (k 0, 4, .inl obg2)), (ob, .inr (8, [.ref ob_0, .ref ob_1, .ref ob_2, .int obv3])), (ob_1, .inl (k 0, 4, .inl obg1))] := hD
            rw [eg_13] at hP hD
            obtain ⟨hP9, hD9⟩ := sub2 hP hD (ws' := [(ob, .inr (8, [.ref ob_0, .ref ob_1, .ref ob_2, .int obv3])), (ob_0, .inl (k 2, 240, .inr (.inl g_13))), (ob_1, .inl (k 0, 4, .inl obg1)), (ob_2, .inl (k 0, 4, .inl obg2))]) [2, 0, 3, 1] (by decide +kernel) rfl
            exact W.vret hx hb hr (fun tZ ht hW => ⟨⟨g_13, rfl, trivial, by rw [ht]; exact hP9, va_K.moved hW.alike hK, hD9⟩, hS.F ht⟩) hS.2.2 dX8_put_74
          · skip
            have zh_10 : x_7.toInt = 2 := z_eq h_10
            refine lv_lload_n hx hb dX8_put_52 rfl (lv_at hl 4 rfl) ?_
            refine lv_l2i (v := p2.toInt32) hx hb dX8_put_53 rfl ?_
            refine lv_topi (fun x_14 ex_14 => ?_)
            refine lv_i2l (v := x_14.toInt64) hx hb dX8_put_54 rfl ?_
            refine lv_goto (tgt := 59) hx hb dX8_put_55 (by decide) ?_
            refine lv_lstore (lv' := [(6, .long x_14.toInt64), (5, .int x_7), (0, .ref ob), (1, .int p0), (2, .int p1), (3, .long p2)]) hx hb dX8_put_59 hl (by decide) rfl (fun ls hl => ?_)
            refine lv_aload_n hx hb dX8_put_61 rfl (lv_at hl 2 rfl) ?_
            refine va_get (D := D) (ci := 8) (v := .ref ob_0) (C := RX8) (T := TX8) (N := 4) hx hb hts iT_X8 hown hK hP 2 rfl rfl 0 (by decide) (hts _ tw_1_237) (fun _ h9 => h9) rfl dX8_put_62 ?_
            refine lv_iload_n hx hb dX8_put_65 rfl (lv_at hl 3 rfl) ?_
            refine lv_bipush (v := 60) hx hb dX8_put_66 (by decide) ?_
            refine lv_imul hx hb dX8_put_68 ?_
            refine lv_topi (fun x_15 ex_15 => ?_)
            have zx_15 : x_15.toInt = p0.toInt * 60 := by rw [ex_15]; exact z_mul rfl rfl (by omega) (by omega)
            refine lv_iload_n hx hb dX8_put_69 rfl (lv_at hl 4 rfl) ?_
            refine lv_iadd hx hb dX8_put_70 ?_
            refine lv_topi (fun x_16 ex_16 => ?_)
            have zx_16 : x_16.toInt = x_15.toInt + p1.toInt := by rw [ex_16]; exact z_add rfl rfl (by omega) (by omega)
            refine lv_lload hx hb dX8_put_71 (lv_at hl 0 rfl) ?_
            refine va_last hx hb hK hP hD hS 0 2 rfl rfl (z_in (by omega) (by omega)) dX8_put_73 (fun H locs hP hD hS => ?_)
            obtain ⟨g_17, eg_17⟩ : ∃ z : Nat → Int64, vp_updL obg0 x_16.toNatClampNeg x_14.toInt64 = z := ⟨_, rfl⟩
            have hP : va_P D vwCl [(ob_0, .inl (k 2, 240, .inr (.inl (vp_updL obg0 x_16.toNatClampNeg x_14.toInt64)))), (ob_2, .inl (k 0, 4, .inl obg2)), (ob, .inr (8, [.ref ob_0, .ref ob_1, .ref ob_2, .int obv3])), (ob_1, .inl (k 0, 4, .inl obg1))] H := hP
            have hD : va_D A [(ob_0, .inl (k 2, 240, .inr (.inl (vp_updL obg0 x_16.toNatClampNeg x_14.toInt64)))), (ob_2, .inl (k 0, 4, .inl obg2)), (ob, .inr (8, [.ref ob_0, .ref ob_1, .ref ob_2, .int obv3])), (ob_1, .inl (k 0, 4, .inl obg1))] := hD
            rw [eg_17] at hP hD
            obtain ⟨hP9, hD9⟩ := sub2 hP hD (ws' := [(ob, .inr (8, [.ref ob_0, .ref ob_1, .ref ob_2, .int obv3])), (ob_0, .inl (k 2, 240, .inr (.inl g_17))), (ob_1, .inl (k 0, 4, .inl obg1)), (ob_2, .inl (k 0, 4, .inl obg2))]) [2, 0, 3, 1] (by decide +kernel) rfl
            exact W.vret hx hb hr (fun tZ ht hW => ⟨⟨g_17, rfl, trivial, by rw [ht]; exact hP9, va_K.moved hW.alike hK, hD9⟩, hS.F ht⟩) hS.2.2 dX8_put_74
        · skip
          have zh_9 : x_7.toInt = 1 := z_eq h_9
          refine lv_lload_n hx hb dX8_put_39 rfl (lv_at hl 4 rfl) ?_
          refine lv_l2i (v := p2.toInt32) hx hb dX8_put_40 rfl ?_
          refine lv_topi (fun x_18 ex_18 => ?_)
          refine lv_i2s (v := x_18.toInt16.toInt32) hx hb dX8_put_41 rfl ?_
          refine lv_topi (fun x_19 ex_19 => ?_)
          refine lv_i2l (v := x_19.toInt64) hx hb dX8_put_42 rfl ?_
          refine lv_goto (tgt := 59) hx hb dX8_put_43 (by decide) ?_
          refine lv_lstore (lv' := [(6, .long x_19.toInt64), (5, .int x_7), (0, .ref ob), (1, .int p0), (2, .int p1), (3, .long p2)]) hx hb dX8_put_59 hl (by decide) rfl (fun ls hl => ?_)
          refine lv_aload_n hx hb dX8_put_61 rfl (lv_at hl 2 rfl) ?_
          refine va_get (D := D) (ci := 8) (v := .ref ob_0) (C := RX8) (T := TX8) (N := 4) hx hb hts iT_X8 hown hK hP 2 rfl rfl 0 (by decide) (hts _ tw_1_237) (fun _ h9 => h9) rfl dX8_put_62 ?_
          refine lv_iload_n hx hb dX8_put_65 rfl (lv_at hl 3 rfl) ?_
          refine lv_bipush (v := 60) hx hb dX8_put_66 (by decide) ?_
          refine lv_imul hx hb dX8_put_68 ?_
          refine lv_topi (fun x_20 ex_20 => ?_)
          have zx_20 : x_20.toInt = p0.toInt * 60 := by rw [ex_20]; exact z_mul rfl rfl (by omega) (by omega)
          refine lv_iload_n hx hb dX8_put_69 rfl (lv_at hl 4 rfl) ?_
          refine lv_iadd hx hb dX8_put_70 ?_
          refine lv_topi (fun x_21 ex_21 => ?_)
          have zx_21 : x_21.toInt = x_20.toInt + p1.toInt := by rw [ex_21]; exact z_add rfl rfl (by omega) (by omega)
          refine lv_lload hx hb dX8_put_71 (lv_at hl 0 rfl) ?_
          refine va_last hx hb hK hP hD hS 0 2 rfl rfl (z_in (by omega) (by omega)) dX8_put_73 (fun H locs hP hD hS => ?_)
          obtain ⟨g_22, eg_22⟩ : ∃ z : Nat → Int64, vp_updL obg0 x_21.toNatClampNeg x_19.toInt64 = z := ⟨_, rfl⟩
          have hP : va_P D vwCl [(ob_0, .inl (k 2, 240, .inr (.inl (vp_updL obg0 x_21.toNatClampNeg x_19.toInt64)))), (ob_2, .inl (k 0, 4, .inl obg2)), (ob, .inr (8, [.ref ob_0, .ref ob_1, .ref ob_2, .int obv3])), (ob_1, .inl (k 0, 4, .inl obg1))] H := hP
          have hD : va_D A [(ob_0, .inl (k 2, 240, .inr (.inl (vp_updL obg0 x_21.toNatClampNeg x_19.toInt64)))), (ob_2, .inl (k 0, 4, .inl obg2)), (ob, .inr (8, [.ref ob_0, .ref ob_1, .ref ob_2, .int obv3])), (ob_1, .inl (k 0, 4, .inl obg1))] := hD
          rw [eg_22] at hP hD
          obtain ⟨hP9, hD9⟩ := sub2 hP hD (ws' := [(ob, .inr (8, [.ref ob_0, .ref ob_1, .ref ob_2, .int obv3])), (ob_0, .inl (k 2, 240, .inr (.inl g_22))), (ob_1, .inl (k 0, 4, .inl obg1)), (ob_2, .inl (k 0, 4, .inl obg2))]) [2, 0, 3, 1] (by decide +kernel) rfl
          exact W.vret hx hb hr (fun tZ ht hW => ⟨⟨g_22, rfl, trivial, by rw [ht]; exact hP9, va_K.moved hW.alike hK, hD9⟩, hS.F ht⟩) hS.2.2 dX8_put_74
      · skip
        have zh_8 : x_7.toInt = 0 := z_eq h_8
        refine lv_lload_n hx hb dX8_put_26 rfl (lv_at hl 4 rfl) ?_
        refine lv_l2i (v := p2.toInt32) hx hb dX8_put_27 rfl ?_
        refine lv_topi (fun x_23 ex_23 => ?_)
        refine lv_i2b (v := x_23.toInt8.toInt32) hx hb dX8_put_28 rfl ?_
        refine lv_i2l (v := x_23.toInt8.toInt32.toInt64) hx hb dX8_put_29 rfl ?_
        refine lv_goto (tgt := 59) hx hb dX8_put_30 (by decide) ?_
        refine lv_lstore (lv' := [(6, .long x_23.toInt8.toInt32.toInt64), (5, .int x_7), (0, .ref ob), (1, .int p0), (2, .int p1), (3, .long p2)]) hx hb dX8_put_59 hl (by decide) rfl (fun ls hl => ?_)
        refine lv_aload_n hx hb dX8_put_61 rfl (lv_at hl 2 rfl) ?_
        refine va_get (D := D) (ci := 8) (v := .ref ob_0) (C := RX8) (T := TX8) (N := 4) hx hb hts iT_X8 hown hK hP 2 rfl rfl 0 (by decide) (hts _ tw_1_237) (fun _ h9 => h9) rfl dX8_put_62 ?_
        refine lv_iload_n hx hb dX8_put_65 rfl (lv_at hl 3 rfl) ?_
        refine lv_bipush (v := 60) hx hb dX8_put_66 (by decide) ?_
        refine lv_imul hx hb dX8_put_68 ?_
        refine lv_topi (fun x_25 ex_25 => ?_)
        have zx_25 : x_25.toInt = p0.toInt * 60 := by rw [ex_25]; exact z_mul rfl rfl (by omega) (by omega)
        refine lv_iload_n hx hb dX8_put_69 rfl (lv_at hl 4 rfl) ?_
        refine lv_iadd hx hb dX8_put_70 ?_
        refine lv_topi (fun x_26 ex_26 => ?_)
        have zx_26 : x_26.toInt = x_25.toInt + p1.toInt := by rw [ex_26]; exact z_add rfl rfl (by omega) (by omega)
        refine lv_lload hx hb dX8_put_71 (lv_at hl 0 rfl) ?_
        refine va_last hx hb hK hP hD hS 0 2 rfl rfl (z_in (by omega) (by omega)) dX8_put_73 (fun H locs hP hD hS => ?_)
        obtain ⟨g_27, eg_27⟩ : ∃ z : Nat → Int64, vp_updL obg0 x_26.toNatClampNeg x_23.toInt8.toInt32.toInt64 = z := ⟨_, rfl⟩
        have hP : va_P D vwCl [(ob_0, .inl (k 2, 240, .inr (.inl (vp_updL obg0 x_26.toNatClampNeg x_23.toInt8.toInt32.toInt64)))), (ob_2, .inl (k 0, 4, .inl obg2)), (ob, .inr (8, [.ref ob_0, .ref ob_1, .ref ob_2, .int obv3])), (ob_1, .inl (k 0, 4, .inl obg1))] H := hP
        have hD : va_D A [(ob_0, .inl (k 2, 240, .inr (.inl (vp_updL obg0 x_26.toNatClampNeg x_23.toInt8.toInt32.toInt64)))), (ob_2, .inl (k 0, 4, .inl obg2)), (ob, .inr (8, [.ref ob_0, .ref ob_1, .ref ob_2, .int obv3])), (ob_1, .inl (k 0, 4, .inl obg1))] := hD
        rw [eg_27] at hP hD
        obtain ⟨hP9, hD9⟩ := sub2 hP hD (ws' := [(ob, .inr (8, [.ref ob_0, .ref ob_1, .ref ob_2, .int obv3])), (ob_0, .inl (k 2, 240, .inr (.inl g_27))), (ob_1, .inl (k 0, 4, .inl obg1)), (ob_2, .inl (k 0, 4, .inl obg2))]) [2, 0, 3, 1] (by decide +kernel) rfl
        exact W.vret hx hb hr (fun tZ ht hW => ⟨⟨g_27, rfl, trivial, by rw [ht]; exact hP9, va_K.moved hW.alike hK, hD9⟩, hS.F ht⟩) hS.2.2 dX8_put_74
set_option maxHeartbeats 4000000 in
set_option maxRecDepth 100000 in
theorem c_X8_areAlike (l : Launch) (D : va_G) (k : Nat → ClassId) (ob : Nat) (p0 : Int32) (p1 : Int32) (ob_0 : Nat) (ob_1 : Nat) (ob_2 : Nat) (obv3 : Int32) (obg2 : Nat → Int32) (sz : Nat) (h_p0 : 0 ≤ p0.toInt ∧ p0.toInt ≤ 3) (h_p1 : 0 ≤ p1.toInt ∧ p1.toInt ≤ 3) : Met l yX8_areAlike (ww yX8_areAlike cX8_areAlike 3 (some .boolean)) ({ frames := 1, cells := 0, slots := 0, locals := 20 }) (Pre0 D k [(ob, .inr (8, [.ref ob_0, .ref ob_1, .ref ob_2, .int obv3])), (ob_2, .inl (k 0, 4, .inl obg2))] sz [.ref ob, .int p0, .int p1]) (va_Qi (fun (r : Int32) (_ : Unit) => (0 ≤ r.toInt ∧ r.toInt ≤ 1) ∧ ((r.toInt = 1 ∧ obg2 p0.toNatClampNeg = obg2 p1.toNatClampNeg) ∨ (r.toInt = 0 ∧ ¬ obg2 p0.toNatClampNeg = obg2 p1.toNatClampNeg))) (fun (_ : Unit) tZ => Bw D k (va_A [(ob, .inr (8, [.ref ob_0, .ref ob_1, .ref ob_2, .int obv3])), (ob_2, .inl (k 0, 4, .inl obg2))] sz) [(ob, .inr (8, [.ref ob_0, .ref ob_1, .ref ob_2, .int obv3])), (ob_2, .inl (k 0, 4, .inl obg2))] tZ) (va_A [(ob, .inr (8, [.ref ob_0, .ref ob_1, .ref ob_2, .int obv3])), (ob_2, .inl (k 0, 4, .inl obg2))] sz)) 0 0 (va_A [(ob, .inr (8, [.ref ob_0, .ref ob_1, .ref ob_2, .int obv3])), (ob_2, .inl (k 0, 4, .inl obg2))] sz) := by
  refine Met.ofW (cc := cX8_areAlike) (maxL := 3) (ret := (some .boolean)) (by decide +kernel) rfl ?_
  intro p e s m args below meth c s₁ B hml hv
  obtain ⟨rfl, hsz, hP, hK, hD0, hN⟩ := hv
  have hx := B.exec
  have hb := B.bytes
  have hr := B.returns
  have hts : ∀ w ∈ TT, w.before _ s = true := fun w h => atoms_spec (ws := ww yX8_areAlike cX8_areAlike 3 (some .boolean)) B.pre w (List.mem_cons_of_mem _ h)
  have hown : s.vm.findClass RX8 = some m.cls := findClass_of_methodNamed B.named
  have hlocks := B.notSynchronized
  subst hsz
  have hD := hD0.self (sz := s.heap.size)
  generalize hAe : va_A [(ob, .inr (8, [.ref ob_0, .ref ob_1, .ref ob_2, .int obv3])), (ob_2, .inl (k 0, 4, .inl obg2))] s.heap.size = A at hD ⊢
  have hA : ∀ q : Nat, s.heap.size ≤ q → A q := fun q h => by rw [← hAe]; exact Or.inr h
  have hS : va_S A s.heap s.heap [] := va_S.rf
  have hl := lv_entry ([.ref ob, .int p0, .int p1]) (n := 3) (Nat.le_of_ble_eq_true rfl)
  rw [lg_entry_eq]
  generalize (lg_sl ([.ref ob, .int p0, .int p1]) ++ List.replicate (3 - (lg_sl ([.ref ob, .int p0, .int p1])).length) Slot.unset).toArray = ls at hl ⊢
  have hl : lv_has ls 3 [(0, .ref ob), (1, .int p0), (2, .int p1)] := hl
  refine lv_iload_n hx hb dX8_areAlike_0 rfl (lv_at hl 1 rfl) ?_
  obtain ⟨hPc, hDc, hFc⟩ := sub3 hP hD hS hA (ws' := []) [] (by decide +kernel) rfl
  refine va_calli (va_runS (As := [.int p0]) (rest := []) ⟨hx, hb, hml, hown, hts⟩ (c_X8_isSlot l D k p0 s.heap.size) (va_cwS 1 hts (gS tw_4_228 tw_4_214 tw_1_5 tw_4_215) rfl rfl rfl hdS_X8_isSlot ⟨Nat.le_of_ble_eq_true rfl, Nat.le_of_ble_eq_true rfl⟩) (cz_S hK hPc hDc hN [.int p0]) rfl rfl hl.1 rfl (lv_room (Nat.le_of_ble_eq_true rfl)) dX8_areAlike_1 ⟨Nat.le_of_ble_eq_true rfl, Nat.le_of_ble_eq_true rfl⟩) hS (fun q _ h => hFc q h) hFc (fun r_1 uZ tZ H1 locs ht hvm hw hB hz1 hk1 hS => ?_)
  obtain ⟨hP1, hK1, hD1⟩ := hB
  rw [ht] at hP1
  obtain ⟨hP, hD⟩ := va_join (wr := [(ob, .inr (8, [.ref ob_0, .ref ob_1, .ref ob_2, .int obv3])), (ob_2, .inl (k 0, 4, .inl obg2))]) (w1 := []) hP hD [] [0, 1] rfl rfl (by decide +kernel) (by decide +kernel) hk1 hFc hP1 hD1
  clear hK1 hP1 hD1 hPc hDc hFc
  clear hk1 hz1 ht hvm
  have hP : va_P D vwCl [(ob, .inr (8, [.ref ob_0, .ref ob_1, .ref ob_2, .int obv3])), (ob_2, .inl (k 0, 4, .inl obg2))] H1 := hP
  have hD : va_D A [(ob, .inr (8, [.ref ob_0, .ref ob_1, .ref ob_2, .int obv3])), (ob_2, .inl (k 0, 4, .inl obg2))] := hD
  generalize H1 = H at hP hS ⊢
  have hw_2 : (0 ≤ r_1.toInt ∧ r_1.toInt ≤ 1) ∧ ((r_1.toInt = 1 ∧ 0 ≤ p0.toInt ∧ p0.toInt ≤ 3) ∨ (r_1.toInt = 0 ∧ (p0.toInt < 0 ∨ 3 < p0.toInt))) := hw
  obtain ⟨hw_3, hw_4⟩ := hw_2
  clear hw
  refine lv_if_eq (tgt := 33) hx hb dX8_areAlike_4 (by decide) (fun h_5 => ?_) (fun h_5 => ?_)
  · skip
    have zh_5 : r_1.toInt = 0 := z_eq h_5
    refine lv_iconst (v := 0) hx hb dX8_areAlike_33 (by decide) ?_
    obtain ⟨hP9, hD9⟩ := sub2 hP hD (ws' := [(ob, .inr (8, [.ref ob_0, .ref ob_1, .ref ob_2, .int obv3])), (ob_2, .inl (k 0, 4, .inl obg2))]) [0, 1] (by decide +kernel) rfl
    exact W.zret (v := 0) hx hb hr (by decide) (fun tZ ht hW => ⟨⟨0, (), rfl, ⟨(show 0 ≤ 0 ∧ 0 ≤ 1 from by omega), (False.elim (by omega))⟩, by rw [ht]; exact hP9, va_K.moved hW.alike hK, hD9⟩, hS.F ht⟩) hS.2.2 dX8_areAlike_34
  · skip
    have zh_5 : ¬ r_1.toInt = 0 := z_ne h_5
    refine lv_iload_n hx hb dX8_areAlike_7 rfl (lv_at hl 2 rfl) ?_
    obtain ⟨hPc, hDc, hFc⟩ := sub3 hP hD hS hA (ws' := []) [] (by decide +kernel) rfl
    refine va_calli (va_runS (As := [.int p1]) (rest := []) ⟨hx, hb, hml, hown, hts⟩ (c_X8_isSlot l D k p1 H.size) (va_cwS 1 hts (gS tw_4_228 tw_4_214 tw_1_5 tw_4_215) rfl rfl rfl hdS_X8_isSlot ⟨Nat.le_of_ble_eq_true rfl, Nat.le_of_ble_eq_true rfl⟩) (cz_S hK hPc hDc hN [.int p1]) rfl rfl hl.1 rfl (lv_room (Nat.le_of_ble_eq_true rfl)) dX8_areAlike_8 ⟨Nat.le_of_ble_eq_true rfl, Nat.le_of_ble_eq_true rfl⟩) hS (fun q _ h => hFc q h) hFc (fun r_6 uZ tZ H1 locs ht hvm hw hB hz1 hk1 hS => ?_)
    obtain ⟨hP1, hK1, hD1⟩ := hB
    rw [ht] at hP1
    obtain ⟨hP, hD⟩ := va_join (wr := [(ob, .inr (8, [.ref ob_0, .ref ob_1, .ref ob_2, .int obv3])), (ob_2, .inl (k 0, 4, .inl obg2))]) (w1 := []) hP hD [] [0, 1] rfl rfl (by decide +kernel) (by decide +kernel) hk1 hFc hP1 hD1
    clear hK1 hP1 hD1 hPc hDc hFc
    clear hk1 hz1 ht hvm
    have hP : va_P D vwCl [(ob, .inr (8, [.ref ob_0, .ref ob_1, .ref ob_2, .int obv3])), (ob_2, .inl (k 0, 4, .inl obg2))] H1 := hP
    have hD : va_D A [(ob, .inr (8, [.ref ob_0, .ref ob_1, .ref ob_2, .int obv3])), (ob_2, .inl (k 0, 4, .inl obg2))] := hD
    generalize H1 = H at hP hS ⊢
    have hw_7 : (0 ≤ r_6.toInt ∧ r_6.toInt ≤ 1) ∧ ((r_6.toInt = 1 ∧ 0 ≤ p1.toInt ∧ p1.toInt ≤ 3) ∨ (r_6.toInt = 0 ∧ (p1.toInt < 0 ∨ 3 < p1.toInt))) := hw
    obtain ⟨hw_8, hw_9⟩ := hw_7
    clear hw
    refine lv_if_eq (tgt := 33) hx hb dX8_areAlike_11 (by decide) (fun h_10 => ?_) (fun h_10 => ?_)
    · skip
      have zh_10 : r_6.toInt = 0 := z_eq h_10
      refine lv_iconst (v := 0) hx hb dX8_areAlike_33 (by decide) ?_
      obtain ⟨hP9, hD9⟩ := sub2 hP hD (ws' := [(ob, .inr (8, [.ref ob_0, .ref ob_1, .ref ob_2, .int obv3])), (ob_2, .inl (k 0, 4, .inl obg2))]) [0, 1] (by decide +kernel) rfl
      exact W.zret (v := 0) hx hb hr (by decide) (fun tZ ht hW => ⟨⟨0, (), rfl, ⟨(show 0 ≤ 0 ∧ 0 ≤ 1 from by omega), (False.elim (by omega))⟩, by rw [ht]; exact hP9, va_K.moved hW.alike hK, hD9⟩, hS.F ht⟩) hS.2.2 dX8_areAlike_34
    · skip
      have zh_10 : ¬ r_6.toInt = 0 := z_ne h_10
      refine lv_aload_n hx hb dX8_areAlike_14 rfl (lv_at hl 0 rfl) ?_
      refine va_get (D := D) (ci := 8) (v := .ref ob_2) (C := RX8) (T := TX8) (N := 4) hx hb hts iT_X8 hown hK hP 0 rfl rfl 2 (by decide) (hts _ tw_1_239) (fun _ h9 => h9) rfl dX8_areAlike_15 ?_
      refine lv_iload_n hx hb dX8_areAlike_18 rfl (lv_at hl 1 rfl) ?_
      refine va_iald hx hb hK hP 1 0 rfl rfl (z_in (by omega) (by omega)) dX8_areAlike_19 ?_
      refine lv_topi (fun x_11 ex_11 => ?_)
      refine lv_aload_n hx hb dX8_areAlike_20 rfl (lv_at hl 0 rfl) ?_
      refine va_get (D := D) (ci := 8) (v := .ref ob_2) (C := RX8) (T := TX8) (N := 4) hx hb hts iT_X8 hown hK hP 0 rfl rfl 2 (by decide) (hts _ tw_1_239) (fun _ h9 => h9) rfl dX8_areAlike_21 ?_
      refine lv_iload_n hx hb dX8_areAlike_24 rfl (lv_at hl 2 rfl) ?_
      refine va_iald hx hb hK hP 1 0 rfl rfl (z_in (by omega) (by omega)) dX8_areAlike_25 ?_
      refine lv_topi (fun x_12 ex_12 => ?_)
      refine lv_icmp_ne (tgt := 33) hx hb dX8_areAlike_26 (by decide) (fun h_13 => ?_) (fun h_13 => ?_)
      · skip
        have zh_13 : ¬ x_11.toInt = x_12.toInt := z_ne h_13
        refine lv_iconst (v := 0) hx hb dX8_areAlike_33 (by decide) ?_
        obtain ⟨hP9, hD9⟩ := sub2 hP hD (ws' := [(ob, .inr (8, [.ref ob_0, .ref ob_1, .ref ob_2, .int obv3])), (ob_2, .inl (k 0, 4, .inl obg2))]) [0, 1] (by decide +kernel) rfl
        exact W.zret (v := 0) hx hb hr (by decide) (fun tZ ht hW => ⟨⟨0, (), rfl, ⟨(show 0 ≤ 0 ∧ 0 ≤ 1 from by omega), (Or.inr ⟨rfl, show ¬ obg2 p0.toNatClampNeg = obg2 p1.toNatClampNeg from by rw [← ex_11, ← ex_12]; exact h_13⟩)⟩, by rw [ht]; exact hP9, va_K.moved hW.alike hK, hD9⟩, hS.F ht⟩) hS.2.2 dX8_areAlike_34
      · skip
        have zh_13 : x_11.toInt = x_12.toInt := z_eq h_13
        refine lv_iconst (v := 1) hx hb dX8_areAlike_29 (by decide) ?_
        refine lv_goto (tgt := 34) hx hb dX8_areAlike_30 (by decide) ?_
        obtain ⟨hP9, hD9⟩ := sub2 hP hD (ws' := [(ob, .inr (8, [.ref ob_0, .ref ob_1, .ref ob_2, .int obv3])), (ob_2, .inl (k 0, 4, .inl obg2))]) [0, 1] (by decide +kernel) rfl
        exact W.zret (v := 1) hx hb hr (by decide) (fun tZ ht hW => ⟨⟨1, (), rfl, ⟨(show 0 ≤ 1 ∧ 1 ≤ 1 from by omega), (Or.inl ⟨rfl, show obg2 p0.toNatClampNeg = obg2 p1.toNatClampNeg from by rw [← ex_11, ← ex_12]; exact h_13⟩)⟩, by rw [ht]; exact hP9, va_K.moved hW.alike hK, hD9⟩, hS.F ht⟩) hS.2.2 dX8_areAlike_34
set_option maxHeartbeats 4000000 in
set_option maxRecDepth 100000 in
theorem c_X8_reaches (l : Launch) (D : va_G) (k : Nat → ClassId) (ob : Nat) (p0 : Int32) (p1 : Int32) (p2 : Int32) (ob_0 : Nat) (ob_1 : Nat) (ob_2 : Nat) (obv3 : Int32) (obg1 : Nat → Int32) (sz : Nat) (h_p0 : 0 ≤ p0.toInt ∧ p0.toInt ≤ 3) (hp_obg1_0 : PR 4 1 0 0 60 obg1) : Met l yX8_reaches (ww yX8_reaches cX8_reaches 4 (some .boolean)) ({ frames := 2, cells := 0, slots := 0, locals := 41 }) (Pre0 D k [(ob, .inr (8, [.ref ob_0, .ref ob_1, .ref ob_2, .int obv3])), (ob_1, .inl (k 0, 4, .inl obg1))] sz [.ref ob, .int p0, .int p1, .int p2]) (va_Qi (fun (r : Int32) (_ : Unit) => (0 ≤ r.toInt ∧ r.toInt ≤ 1) ∧ ((r.toInt = 1 ∧ 0 ≤ p1.toInt ∧ 0 ≤ p2.toInt ∧ p1.toInt + p2.toInt ≤ (obg1 p0.toNatClampNeg).toInt) ∨ (r.toInt = 0 ∧ (p1.toInt < 0 ∨ p2.toInt < 0 ∨ (obg1 p0.toNatClampNeg).toInt < p1.toInt + p2.toInt))) ∧ (r.toInt = 0 ∨ (0 ≤ p1.toInt ∧ 0 ≤ p2.toInt ∧ p1.toInt + p2.toInt ≤ 60))) (fun (_ : Unit) tZ => Bw D k (va_A [(ob, .inr (8, [.ref ob_0, .ref ob_1, .ref ob_2, .int obv3])), (ob_1, .inl (k 0, 4, .inl obg1))] sz) [(ob, .inr (8, [.ref ob_0, .ref ob_1, .ref ob_2, .int obv3])), (ob_1, .inl (k 0, 4, .inl obg1))] tZ) (va_A [(ob, .inr (8, [.ref ob_0, .ref ob_1, .ref ob_2, .int obv3])), (ob_1, .inl (k 0, 4, .inl obg1))] sz)) 0 0 (va_A [(ob, .inr (8, [.ref ob_0, .ref ob_1, .ref ob_2, .int obv3])), (ob_1, .inl (k 0, 4, .inl obg1))] sz) := by
  refine Met.ofW (cc := cX8_reaches) (maxL := 4) (ret := (some .boolean)) (by decide +kernel) rfl ?_
  intro p e s m args below meth c s₁ B hml hv
  obtain ⟨rfl, hsz, hP, hK, hD0, hN⟩ := hv
  have hx := B.exec
  have hb := B.bytes
  have hr := B.returns
  have hts : ∀ w ∈ TT, w.before _ s = true := fun w h => atoms_spec (ws := ww yX8_reaches cX8_reaches 4 (some .boolean)) B.pre w (List.mem_cons_of_mem _ h)
  have hown : s.vm.findClass RX8 = some m.cls := findClass_of_methodNamed B.named
  have hlocks := B.notSynchronized
  subst hsz
  have hD := hD0.self (sz := s.heap.size)
  generalize hAe : va_A [(ob, .inr (8, [.ref ob_0, .ref ob_1, .ref ob_2, .int obv3])), (ob_1, .inl (k 0, 4, .inl obg1))] s.heap.size = A at hD ⊢
  have hA : ∀ q : Nat, s.heap.size ≤ q → A q := fun q h => by rw [← hAe]; exact Or.inr h
  have hS : va_S A s.heap s.heap [] := va_S.rf
  have hl := lv_entry ([.ref ob, .int p0, .int p1, .int p2]) (n := 4) (Nat.le_of_ble_eq_true rfl)
  rw [lg_entry_eq]
  generalize (lg_sl ([.ref ob, .int p0, .int p1, .int p2]) ++ List.replicate (4 - (lg_sl ([.ref ob, .int p0, .int p1, .int p2])).length) Slot.unset).toArray = ls at hl ⊢
  have hl : lv_has ls 4 [(0, .ref ob), (1, .int p0), (2, .int p1), (3, .int p2)] := hl
  refine lv_iload_n hx hb dX8_reaches_0 rfl (lv_at hl 2 rfl) ?_
  refine lv_if_lt (tgt := 27) hx hb dX8_reaches_1 (by decide) (fun h_1 => ?_) (fun h_1 => ?_)
  · skip
    have zh_1 : p1.toInt < 0 := z_lt h_1
    refine lv_iconst (v := 0) hx hb dX8_reaches_27 (by decide) ?_
    obtain ⟨hP9, hD9⟩ := sub2 hP hD (ws' := [(ob, .inr (8, [.ref ob_0, .ref ob_1, .ref ob_2, .int obv3])), (ob_1, .inl (k 0, 4, .inl obg1))]) [0, 1] (by decide +kernel) rfl
    exact W.zret (v := 0) hx hb hr (by decide) (fun tZ ht hW => ⟨⟨0, (), rfl, ⟨(show 0 ≤ 0 ∧ 0 ≤ 1 from by omega), (show (0 = 1 ∧ 0 ≤ p1.toInt ∧ 0 ≤ p2.toInt ∧ p1.toInt + p2.toInt ≤ (obg1 p0.toNatClampNeg).toInt) ∨ (0 = 0 ∧ (p1.toInt < 0 ∨ p2.toInt < 0 ∨ (obg1 p0.toNatClampNeg).toInt < p1.toInt + p2.toInt)) from by omega), (show 0 = 0 ∨ (0 ≤ p1.toInt ∧ 0 ≤ p2.toInt ∧ p1.toInt + p2.toInt ≤ 60) from by omega)⟩, by rw [ht]; exact hP9, va_K.moved hW.alike hK, hD9⟩, hS.F ht⟩) hS.2.2 dX8_reaches_28
  · skip
    have zh_1 : 0 ≤ p1.toInt := z_nlt h_1
    refine lv_iload_n hx hb dX8_reaches_4 rfl (lv_at hl 3 rfl) ?_
    refine lv_if_lt (tgt := 27) hx hb dX8_reaches_5 (by decide) (fun h_2 => ?_) (fun h_2 => ?_)
    · skip
      have zh_2 : p2.toInt < 0 := z_lt h_2
      refine lv_iconst (v := 0) hx hb dX8_reaches_27 (by decide) ?_
      obtain ⟨hP9, hD9⟩ := sub2 hP hD (ws' := [(ob, .inr (8, [.ref ob_0, .ref ob_1, .ref ob_2, .int obv3])), (ob_1, .inl (k 0, 4, .inl obg1))]) [0, 1] (by decide +kernel) rfl
      exact W.zret (v := 0) hx hb hr (by decide) (fun tZ ht hW => ⟨⟨0, (), rfl, ⟨(show 0 ≤ 0 ∧ 0 ≤ 1 from by omega), (show (0 = 1 ∧ 0 ≤ p1.toInt ∧ 0 ≤ p2.toInt ∧ p1.toInt + p2.toInt ≤ (obg1 p0.toNatClampNeg).toInt) ∨ (0 = 0 ∧ (p1.toInt < 0 ∨ p2.toInt < 0 ∨ (obg1 p0.toNatClampNeg).toInt < p1.toInt + p2.toInt)) from by omega), (show 0 = 0 ∨ (0 ≤ p1.toInt ∧ 0 ≤ p2.toInt ∧ p1.toInt + p2.toInt ≤ 60) from by omega)⟩, by rw [ht]; exact hP9, va_K.moved hW.alike hK, hD9⟩, hS.F ht⟩) hS.2.2 dX8_reaches_28
    · skip
      have zh_2 : 0 ≤ p2.toInt := z_nlt h_2
      refine lv_iload_n hx hb dX8_reaches_8 rfl (lv_at hl 2 rfl) ?_
      refine lv_i2l (v := p1.toInt64) hx hb dX8_reaches_9 rfl ?_
      refine lv_iload_n hx hb dX8_reaches_10 rfl (lv_at hl 3 rfl) ?_
      refine lv_i2l (v := p2.toInt64) hx hb dX8_reaches_11 rfl ?_
      refine lv_ladd hx hb dX8_reaches_12 ?_
      refine lv_topl (fun x_3 ex_3 => ?_)
      have zrp1 := z_rng p1
      have zrp2 := z_rng p2
      have zx_3 : x_3.toInt = p1.toInt + p2.toInt := by rw [ex_3]; exact zl_add (Int32.toInt_toInt64 _) (Int32.toInt_toInt64 _) (by omega) (by omega)
      refine lv_aload_n hx hb dX8_reaches_13 rfl (lv_at hl 0 rfl) ?_
      refine lv_iload_n hx hb dX8_reaches_14 rfl (lv_at hl 1 rfl) ?_
      obtain ⟨hPc, hDc, hFc⟩ := sub3 hP hD hS hA (ws' := [(ob, .inr (8, [.ref ob_0, .ref ob_1, .ref ob_2, .int obv3])), (ob_1, .inl (k 0, 4, .inl obg1))]) [0, 1] (by decide +kernel) rfl
      refine va_calli (va_runV (C := RX8) (As := [.int p0]) (rest := [.long x_3]) ⟨hx, hb, hml, hown, hts⟩ (c_X8_length l D k ob p0 ob_0 ob_1 ob_2 obv3 obg1 s.heap.size (show 0 ≤ p0.toInt ∧ p0.toInt ≤ 3 from by omega) hp_obg1_0) (cwV 1 hts (gV tw_4_224 tw_4_225 tw_4_226 tw_1_5 tw_4_227) rfl rfl rfl hdV_X8_length ⟨Nat.le_of_ble_eq_true rfl, Nat.le_of_ble_eq_true rfl⟩) (cz_V hK hPc hDc hN (ci := 8) (q0 := 0) rfl rfl [.int p0]) rfl rfl hl.1 rfl (lv_room (Nat.le_of_ble_eq_true rfl)) dX8_reaches_15 ⟨Nat.le_of_ble_eq_true rfl, Nat.le_of_ble_eq_true rfl⟩) hS (fun q _ h => hFc q h) hFc (fun r_4 uZ tZ H1 locs ht hvm hw hB hz1 hk1 hS => ?_)
      obtain ⟨hP1, hK1, hD1⟩ := hB
      rw [ht] at hP1
      obtain ⟨hP, hD⟩ := va_join (wr := []) (w1 := [(ob, .inr (8, [.ref ob_0, .ref ob_1, .ref ob_2, .int obv3])), (ob_1, .inl (k 0, 4, .inl obg1))]) hP hD [0, 1] [] rfl rfl (by decide +kernel) (by decide +kernel) hk1 hFc hP1 hD1
      clear hK1 hP1 hD1 hPc hDc hFc
      clear hk1 hz1 ht hvm
      have hP : va_P D vwCl [(ob, .inr (8, [.ref ob_0, .ref ob_1, .ref ob_2, .int obv3])), (ob_1, .inl (k 0, 4, .inl obg1))] H1 := hP
      have hD : va_D A [(ob, .inr (8, [.ref ob_0, .ref ob_1, .ref ob_2, .int obv3])), (ob_1, .inl (k 0, 4, .inl obg1))] := hD
      generalize H1 = H at hP hS ⊢
      have hw_5 : (0 ≤ r_4.toInt ∧ r_4.toInt ≤ 60) ∧ (r_4 = obg1 p0.toNatClampNeg) := hw
      obtain ⟨hw_6, hw_7⟩ := hw_5
      clear hw
      refine lv_i2l (v := r_4.toInt64) hx hb dX8_reaches_18 rfl ?_
      refine W.lcmp hx hb dX8_reaches_19 ?_
      refine lv_if_gt (tgt := 27) hx hb dX8_reaches_20 (by decide) (fun h_8 => ?_) (fun h_8 => ?_)
      · skip
        have zh_8 : r_4.toInt < x_3.toInt := zL_gt h_8 rfl (Int32.toInt_toInt64 _)
        refine lv_iconst (v := 0) hx hb dX8_reaches_27 (by decide) ?_
        obtain ⟨hP9, hD9⟩ := sub2 hP hD (ws' := [(ob, .inr (8, [.ref ob_0, .ref ob_1, .ref ob_2, .int obv3])), (ob_1, .inl (k 0, 4, .inl obg1))]) [0, 1] (by decide +kernel) rfl
        exact W.zret (v := 0) hx hb hr (by decide) (fun tZ ht hW => ⟨⟨0, (), rfl, ⟨(show 0 ≤ 0 ∧ 0 ≤ 1 from by omega), (show (0 = 1 ∧ 0 ≤ p1.toInt ∧ 0 ≤ p2.toInt ∧ p1.toInt + p2.toInt ≤ (obg1 p0.toNatClampNeg).toInt) ∨ (0 = 0 ∧ (p1.toInt < 0 ∨ p2.toInt < 0 ∨ (obg1 p0.toNatClampNeg).toInt < p1.toInt + p2.toInt)) from by have q7 := congrArg Int32.toInt hw_7; omega), (show 0 = 0 ∨ (0 ≤ p1.toInt ∧ 0 ≤ p2.toInt ∧ p1.toInt + p2.toInt ≤ 60) from by omega)⟩, by rw [ht]; exact hP9, va_K.moved hW.alike hK, hD9⟩, hS.F ht⟩) hS.2.2 dX8_reaches_28
      · skip
        have zh_8 : x_3.toInt ≤ r_4.toInt := zL_ngt h_8 rfl (Int32.toInt_toInt64 _)
        refine lv_iconst (v := 1) hx hb dX8_reaches_23 (by decide) ?_
        refine lv_goto (tgt := 28) hx hb dX8_reaches_24 (by decide) ?_
        obtain ⟨hP9, hD9⟩ := sub2 hP hD (ws' := [(ob, .inr (8, [.ref ob_0, .ref ob_1, .ref ob_2, .int obv3])), (ob_1, .inl (k 0, 4, .inl obg1))]) [0, 1] (by decide +kernel) rfl
        exact W.zret (v := 1) hx hb hr (by decide) (fun tZ ht hW => ⟨⟨1, (), rfl, ⟨(show 0 ≤ 1 ∧ 1 ≤ 1 from by omega), (show (1 = 1 ∧ 0 ≤ p1.toInt ∧ 0 ≤ p2.toInt ∧ p1.toInt + p2.toInt ≤ (obg1 p0.toNatClampNeg).toInt) ∨ (1 = 0 ∧ (p1.toInt < 0 ∨ p2.toInt < 0 ∨ (obg1 p0.toNatClampNeg).toInt < p1.toInt + p2.toInt)) from by have q7 := congrArg Int32.toInt hw_7; omega), (show 1 = 0 ∨ (0 ≤ p1.toInt ∧ 0 ≤ p2.toInt ∧ p1.toInt + p2.toInt ≤ 60) from by omega)⟩, by rw [ht]; exact hP9, va_K.moved hW.alike hK, hD9⟩, hS.F ht⟩) hS.2.2 dX8_reaches_28
set_option maxHeartbeats 4000000 in
set_option maxRecDepth 100000 in
theorem c_X8_copyPart (l : Launch) (D : va_G) (k : Nat → ClassId) (ob : Nat) (p0 : Int32) (p1 : Int32) (p2 : Int32) (p3 : Int32) (p4 : Int32) (ob_0 : Nat) (ob_1 : Nat) (ob_2 : Nat) (obv3 : Int32) (obg0 : Nat → Int64) (obg1 : Nat → Int32) (sz : Nat) (h_p0 : 0 ≤ p0.toInt ∧ p0.toInt ≤ 3) (h_p2 : 0 ≤ p2.toInt ∧ p2.toInt ≤ 3) (hp_obg1_0 : PR 4 1 0 0 60 obg1) : Met l yX8_copyPart (ww yX8_copyPart cX8_copyPart 6 none) ({ frames := 3, cells := 0, slots := 0, locals := 64 }) (Pre0 D k [(ob, .inr (8, [.ref ob_0, .ref ob_1, .ref ob_2, .int obv3])), (ob_0, .inl (k 2, 240, .inr (.inl obg0))), (ob_1, .inl (k 0, 4, .inl obg1))] sz [.ref ob, .int p0, .int p1, .int p2, .int p3, .int p4]) (va_Qv (fun (obg0z : (Nat → Int64)) => True) (fun (obg0z : (Nat → Int64)) tZ => Bw D k (va_A [(ob, .inr (8, [.ref ob_0, .ref ob_1, .ref ob_2, .int obv3])), (ob_0, .inl (k 2, 240, .inr (.inl obg0))), (ob_1, .inl (k 0, 4, .inl obg1))] sz) [(ob, .inr (8, [.ref ob_0, .ref ob_1, .ref ob_2, .int obv3])), (ob_0, .inl (k 2, 240, .inr (.inl obg0z))), (ob_1, .inl (k 0, 4, .inl obg1))] tZ) (va_A [(ob, .inr (8, [.ref ob_0, .ref ob_1, .ref ob_2, .int obv3])), (ob_0, .inl (k 2, 240, .inr (.inl obg0))), (ob_1, .inl (k 0, 4, .inl obg1))] sz)) 0 0 (va_A [(ob, .inr (8, [.ref ob_0, .ref ob_1, .ref ob_2, .int obv3])), (ob_0, .inl (k 2, 240, .inr (.inl obg0))), (ob_1, .inl (k 0, 4, .inl obg1))] sz) := by
  refine Met.ofW (cc := cX8_copyPart) (maxL := 6) (ret := none) (by decide +kernel) rfl ?_
  intro p e s m args below meth c s₁ B hml hv
  obtain ⟨rfl, hsz, hP, hK, hD0, hN⟩ := hv
  have hx := B.exec
  have hb := B.bytes
  have hr := B.returns
  have hts : ∀ w ∈ TT, w.before _ s = true := fun w h => atoms_spec (ws := ww yX8_copyPart cX8_copyPart 6 none) B.pre w (List.mem_cons_of_mem _ h)
  have hown : s.vm.findClass RX8 = some m.cls := findClass_of_methodNamed B.named
  have hlocks := B.notSynchronized
  subst hsz
  have hD := hD0.self (sz := s.heap.size)
  generalize hAe : va_A [(ob, .inr (8, [.ref ob_0, .ref ob_1, .ref ob_2, .int obv3])), (ob_0, .inl (k 2, 240, .inr (.inl obg0))), (ob_1, .inl (k 0, 4, .inl obg1))] s.heap.size = A at hD ⊢
  have hA : ∀ q : Nat, s.heap.size ≤ q → A q := fun q h => by rw [← hAe]; exact Or.inr h
  have hS : va_S A s.heap s.heap [] := va_S.rf
  have hl := lv_entry ([.ref ob, .int p0, .int p1, .int p2, .int p3, .int p4]) (n := 6) (Nat.le_of_ble_eq_true rfl)
  rw [lg_entry_eq]
  generalize (lg_sl ([.ref ob, .int p0, .int p1, .int p2, .int p3, .int p4]) ++ List.replicate (6 - (lg_sl ([.ref ob, .int p0, .int p1, .int p2, .int p3, .int p4])).length) Slot.unset).toArray = ls at hl ⊢
  have hl : lv_has ls 6 [(0, .ref ob), (1, .int p0), (2, .int p1), (3, .int p2), (4, .int p3), (5, .int p4)] := hl
  refine lv_aload_n hx hb dX8_copyPart_0 rfl (lv_at hl 0 rfl) ?_
  refine lv_iload_n hx hb dX8_copyPart_1 rfl (lv_at hl 1 rfl) ?_
  refine lv_iload_n hx hb dX8_copyPart_2 rfl (lv_at hl 2 rfl) ?_
  refine lv_iload hx hb dX8_copyPart_3 (lv_at hl 5 rfl) ?_
  obtain ⟨hPc, hDc, hFc⟩ := sub3 hP hD hS hA (ws' := [(ob, .inr (8, [.ref ob_0, .ref ob_1, .ref ob_2, .int obv3])), (ob_1, .inl (k 0, 4, .inl obg1))]) [0, 2] (by decide +kernel) rfl
  refine va_calli (va_runV (C := RX8) (As := [.int p0, .int p1, .int p4]) (rest := []) ⟨hx, hb, hml, hown, hts⟩ (c_X8_reaches l D k ob p0 p1 p4 ob_0 ob_1 ob_2 obv3 obg1 s.heap.size (show 0 ≤ p0.toInt ∧ p0.toInt ≤ 3 from by omega) hp_obg1_0) (cwV 3 hts (gV tw_6_45 tw_6_38 tw_6_39 tw_1_5 tw_6_40) rfl rfl rfl hdV_X8_reaches ⟨Nat.le_of_ble_eq_true rfl, Nat.le_of_ble_eq_true rfl⟩) (cz_V hK hPc hDc hN (ci := 8) (q0 := 0) rfl rfl [.int p0, .int p1, .int p4]) rfl rfl hl.1 rfl (lv_room (Nat.le_of_ble_eq_true rfl)) dX8_copyPart_5 ⟨Nat.le_of_ble_eq_true rfl, Nat.le_of_ble_eq_true rfl⟩) hS (fun q _ h => hFc q h) hFc (fun r_1 uZ tZ H1 locs ht hvm hw hB hz1 hk1 hS => ?_)
  obtain ⟨hP1, hK1, hD1⟩ := hB
  rw [ht] at hP1
  obtain ⟨hP, hD⟩ := va_join (wr := [(ob_0, .inl (k 2, 240, .inr (.inl obg0)))]) (w1 := [(ob, .inr (8, [.ref ob_0, .ref ob_1, .ref ob_2, .int obv3])), (ob_1, .inl (k 0, 4, .inl obg1))]) hP hD [0, 2] [1] rfl rfl (by decide +kernel) (by decide +kernel) hk1 hFc hP1 hD1
  clear hK1 hP1 hD1 hPc hDc hFc
  clear hk1 hz1 ht hvm
  have hP : va_P D vwCl [(ob_0, .inl (k 2, 240, .inr (.inl obg0))), (ob, .inr (8, [.ref ob_0, .ref ob_1, .ref ob_2, .int obv3])), (ob_1, .inl (k 0, 4, .inl obg1))] H1 := hP
  have hD : va_D A [(ob_0, .inl (k 2, 240, .inr (.inl obg0))), (ob, .inr (8, [.ref ob_0, .ref ob_1, .ref ob_2, .int obv3])), (ob_1, .inl (k 0, 4, .inl obg1))] := hD
  generalize H1 = H at hP hS ⊢
  have hw_2 : (0 ≤ r_1.toInt ∧ r_1.toInt ≤ 1) ∧ ((r_1.toInt = 1 ∧ 0 ≤ p1.toInt ∧ 0 ≤ p4.toInt ∧ p1.toInt + p4.toInt ≤ (obg1 p0.toNatClampNeg).toInt) ∨ (r_1.toInt = 0 ∧ (p1.toInt < 0 ∨ p4.toInt < 0 ∨ (obg1 p0.toNatClampNeg).toInt < p1.toInt + p4.toInt))) ∧ (r_1.toInt = 0 ∨ (0 ≤ p1.toInt ∧ 0 ≤ p4.toInt ∧ p1.toInt + p4.toInt ≤ 60)) := hw
  obtain ⟨hw_3, hw_4, hw_5⟩ := hw_2
  clear hw
  refine lv_if_eq (tgt := 49) hx hb dX8_copyPart_8 (by decide) (fun h_6 => ?_) (fun h_6 => ?_)
  · skip
    have zh_6 : r_1.toInt = 0 := z_eq h_6
    obtain ⟨hP9, hD9⟩ := sub2 hP hD (ws' := [(ob, .inr (8, [.ref ob_0, .ref ob_1, .ref ob_2, .int obv3])), (ob_0, .inl (k 2, 240, .inr (.inl obg0))), (ob_1, .inl (k 0, 4, .inl obg1))]) [1, 0, 2] (by decide +kernel) rfl
    exact W.vret hx hb hr (fun tZ ht hW => ⟨⟨obg0, rfl, trivial, by rw [ht]; exact hP9, va_K.moved hW.alike hK, hD9⟩, hS.F ht⟩) hS.2.2 dX8_copyPart_49
  · skip
    have zh_6 : ¬ r_1.toInt = 0 := z_ne h_6
    refine lv_aload_n hx hb dX8_copyPart_11 rfl (lv_at hl 0 rfl) ?_
    refine lv_iload_n hx hb dX8_copyPart_12 rfl (lv_at hl 3 rfl) ?_
    refine lv_iload hx hb dX8_copyPart_13 (lv_at hl 4 rfl) ?_
    refine lv_iload hx hb dX8_copyPart_15 (lv_at hl 5 rfl) ?_
    obtain ⟨hPc, hDc, hFc⟩ := sub3 hP hD hS hA (ws' := [(ob, .inr (8, [.ref ob_0, .ref ob_1, .ref ob_2, .int obv3])), (ob_1, .inl (k 0, 4, .inl obg1))]) [1, 2] (by decide +kernel) rfl
    refine va_calli (va_runV (C := RX8) (As := [.int p2, .int p3, .int p4]) (rest := []) ⟨hx, hb, hml, hown, hts⟩ (c_X8_reaches l D k ob p2 p3 p4 ob_0 ob_1 ob_2 obv3 obg1 H.size (show 0 ≤ p2.toInt ∧ p2.toInt ≤ 3 from by omega) hp_obg1_0) (cwV 3 hts (gV tw_6_45 tw_6_38 tw_6_39 tw_1_5 tw_6_40) rfl rfl rfl hdV_X8_reaches ⟨Nat.le_of_ble_eq_true rfl, Nat.le_of_ble_eq_true rfl⟩) (cz_V hK hPc hDc hN (ci := 8) (q0 := 0) rfl rfl [.int p2, .int p3, .int p4]) rfl rfl hl.1 rfl (lv_room (Nat.le_of_ble_eq_true rfl)) dX8_copyPart_17 ⟨Nat.le_of_ble_eq_true rfl, Nat.le_of_ble_eq_true rfl⟩) hS (fun q _ h => hFc q h) hFc (fun r_7 uZ tZ H1 locs ht hvm hw hB hz1 hk1 hS => ?_)
    obtain ⟨hP1, hK1, hD1⟩ := hB
    rw [ht] at hP1
    obtain ⟨hP, hD⟩ := va_join (wr := [(ob_0, .inl (k 2, 240, .inr (.inl obg0)))]) (w1 := [(ob, .inr (8, [.ref ob_0, .ref ob_1, .ref ob_2, .int obv3])), (ob_1, .inl (k 0, 4, .inl obg1))]) hP hD [1, 2] [0] rfl rfl (by decide +kernel) (by decide +kernel) hk1 hFc hP1 hD1
    clear hK1 hP1 hD1 hPc hDc hFc
    clear hk1 hz1 ht hvm
    have hP : va_P D vwCl [(ob_0, .inl (k 2, 240, .inr (.inl obg0))), (ob, .inr (8, [.ref ob_0, .ref ob_1, .ref ob_2, .int obv3])), (ob_1, .inl (k 0, 4, .inl obg1))] H1 := hP
    have hD : va_D A [(ob_0, .inl (k 2, 240, .inr (.inl obg0))), (ob, .inr (8, [.ref ob_0, .ref ob_1, .ref ob_2, .int obv3])), (ob_1, .inl (k 0, 4, .inl obg1))] := hD
    generalize H1 = H at hP hS ⊢
    have hw_8 : (0 ≤ r_7.toInt ∧ r_7.toInt ≤ 1) ∧ ((r_7.toInt = 1 ∧ 0 ≤ p3.toInt ∧ 0 ≤ p4.toInt ∧ p3.toInt + p4.toInt ≤ (obg1 p2.toNatClampNeg).toInt) ∨ (r_7.toInt = 0 ∧ (p3.toInt < 0 ∨ p4.toInt < 0 ∨ (obg1 p2.toNatClampNeg).toInt < p3.toInt + p4.toInt))) ∧ (r_7.toInt = 0 ∨ (0 ≤ p3.toInt ∧ 0 ≤ p4.toInt ∧ p3.toInt + p4.toInt ≤ 60)) := hw
    obtain ⟨hw_9, hw_10, hw_11⟩ := hw_8
    clear hw
    refine lv_if_eq (tgt := 49) hx hb dX8_copyPart_20 (by decide) (fun h_12 => ?_) (fun h_12 => ?_)
    · skip
      have zh_12 : r_7.toInt = 0 := z_eq h_12
      obtain ⟨hP9, hD9⟩ := sub2 hP hD (ws' := [(ob, .inr (8, [.ref ob_0, .ref ob_1, .ref ob_2, .int obv3])), (ob_0, .inl (k 2, 240, .inr (.inl obg0))), (ob_1, .inl (k 0, 4, .inl obg1))]) [1, 0, 2] (by decide +kernel) rfl
      exact W.vret hx hb hr (fun tZ ht hW => ⟨⟨obg0, rfl, trivial, by rw [ht]; exact hP9, va_K.moved hW.alike hK, hD9⟩, hS.F ht⟩) hS.2.2 dX8_copyPart_49
    · skip
      have zh_12 : ¬ r_7.toInt = 0 := z_ne h_12
      refine lv_aload_n hx hb dX8_copyPart_23 rfl (lv_at hl 0 rfl) ?_
      refine va_get (D := D) (ci := 8) (v := .ref ob_0) (C := RX8) (T := TX8) (N := 4) hx hb hts iT_X8 hown hK hP 1 rfl rfl 0 (by decide) (hts _ tw_1_237) (fun _ h9 => h9) rfl dX8_copyPart_24 ?_
      refine lv_iload_n hx hb dX8_copyPart_27 rfl (lv_at hl 1 rfl) ?_
      refine lv_bipush (v := 60) hx hb dX8_copyPart_28 (by decide) ?_
      refine lv_imul hx hb dX8_copyPart_30 ?_
      refine lv_topi (fun x_13 ex_13 => ?_)
      have zx_13 : x_13.toInt = p0.toInt * 60 := by rw [ex_13]; exact z_mul rfl rfl (by omega) (by omega)
      refine lv_iload_n hx hb dX8_copyPart_31 rfl (lv_at hl 2 rfl) ?_
      refine lv_iadd hx hb dX8_copyPart_32 ?_
      refine lv_topi (fun x_14 ex_14 => ?_)
      have zx_14 : x_14.toInt = x_13.toInt + p1.toInt := by rw [ex_14]; exact z_add rfl rfl (by omega) (by omega)
      refine lv_aload_n hx hb dX8_copyPart_33 rfl (lv_at hl 0 rfl) ?_
      refine va_get (D := D) (ci := 8) (v := .ref ob_0) (C := RX8) (T := TX8) (N := 4) hx hb hts iT_X8 hown hK hP 1 rfl rfl 0 (by decide) (hts _ tw_1_237) (fun _ h9 => h9) rfl dX8_copyPart_34 ?_
      refine lv_iload_n hx hb dX8_copyPart_37 rfl (lv_at hl 3 rfl) ?_
      refine lv_bipush (v := 60) hx hb dX8_copyPart_38 (by decide) ?_
      refine lv_imul hx hb dX8_copyPart_40 ?_
      refine lv_topi (fun x_15 ex_15 => ?_)
      have zx_15 : x_15.toInt = p2.toInt * 60 := by rw [ex_15]; exact z_mul rfl rfl (by omega) (by omega)
      refine lv_iload hx hb dX8_copyPart_41 (lv_at hl 4 rfl) ?_
      refine lv_iadd hx hb dX8_copyPart_43 ?_
      refine lv_topi (fun x_16 ex_16 => ?_)
      have zx_16 : x_16.toInt = x_15.toInt + p3.toInt := by rw [ex_16]; exact z_add rfl rfl (by omega) (by omega)
      refine lv_iload hx hb dX8_copyPart_44 (lv_at hl 5 rfl) ?_
      refine va_copyl (ty := .long) hx hb (by rw [hml]; exact hl.1.symm) hown (hts _ tw_6_46) (hts _ tw_4_178) (hts _ tw_4_177) (hts _ tw_1_21) hK hP hD hS 0 0 2 2 rfl rfl rfl rfl rfl (sp := x_14) (dp := x_16) (n := p4) (z_nneg (by omega)) (z_nneg (by omega)) (z_nneg (by omega)) (z_sumle (a := x_14) (n := p4) (show (0 : Int) ≤ x_14.toInt from by omega) (show (0 : Int) ≤ p4.toInt from by omega) (show x_14.toInt + p4.toInt ≤ 240 from by omega)) (z_sumle (a := x_16) (n := p4) (show (0 : Int) ≤ x_16.toInt from by omega) (show (0 : Int) ≤ p4.toInt from by omega) (show x_16.toInt + p4.toInt ≤ 240 from by omega)) (fun _ _ => rfl) (Nat.le_of_ble_eq_true rfl) (Nat.le_of_ble_eq_true rfl) dX8_copyPart_46 (fun H locs hP hD hS => ?_)
      have hP : va_P D vwCl [(ob_0, .inl (k 2, 240, .inr (.inl (va_cpy obg0 obg0 x_14.toNatClampNeg x_16.toNatClampNeg p4.toNatClampNeg)))), (ob, .inr (8, [.ref ob_0, .ref ob_1, .ref ob_2, .int obv3])), (ob_1, .inl (k 0, 4, .inl obg1))] H := hP
      have hD : va_D A [(ob_0, .inl (k 2, 240, .inr (.inl (va_cpy obg0 obg0 x_14.toNatClampNeg x_16.toNatClampNeg p4.toNatClampNeg)))), (ob, .inr (8, [.ref ob_0, .ref ob_1, .ref ob_2, .int obv3])), (ob_1, .inl (k 0, 4, .inl obg1))] := hD
      obtain ⟨g_17, eg_17⟩ : ∃ z : Nat → Int64, va_cpy obg0 obg0 x_14.toNatClampNeg x_16.toNatClampNeg p4.toNatClampNeg = z := ⟨_, rfl⟩
      rw [eg_17] at hP hD
      obtain ⟨hP9, hD9⟩ := sub2 hP hD (ws' := [(ob, .inr (8, [.ref ob_0, .ref ob_1, .ref ob_2, .int obv3])), (ob_0, .inl (k 2, 240, .inr (.inl g_17))), (ob_1, .inl (k 0, 4, .inl obg1))]) [1, 0, 2] (by decide +kernel) rfl
      exact W.vret hx hb hr (fun tZ ht hW => ⟨⟨g_17, rfl, trivial, by rw [ht]; exact hP9, va_K.moved hW.alike hK, hD9⟩, hS.F ht⟩) hS.2.2 dX8_copyPart_49
set_option maxHeartbeats 4000000 in
set_option maxRecDepth 100000 in
theorem c_X8_tellsSights (l : Launch) (D : va_G) (k : Nat → ClassId) (ob : Nat) (p0 : Int32) (p1 : Int32) (ob_0 : Nat) (ob_1 : Nat) (ob_2 : Nat) (obv3 : Int32) (obg0 : Nat → Int64) (obg1 : Nat → Int32) (sz : Nat) (h_p0 : 0 ≤ p0.toInt ∧ p0.toInt ≤ 3) (h_p1 : 0 ≤ p1.toInt ∧ p1.toInt ≤ 8) (hp_obg1_0 : PR 4 1 0 0 60 obg1) : Met l yX8_tellsSights (ww yX8_tellsSights cX8_tellsSights 8 (some .boolean)) ({ frames := 3, cells := 0, slots := 0, locals := 63 }) (Pre0 D k [(ob, .inr (8, [.ref ob_0, .ref ob_1, .ref ob_2, .int obv3])), (ob_0, .inl (k 2, 240, .inr (.inl obg0))), (ob_1, .inl (k 0, 4, .inl obg1))] sz [.ref ob, .int p0, .int p1]) (va_Qi (fun (r : Int32) (_ : Unit) => (0 ≤ r.toInt ∧ r.toInt ≤ 1) ∧ (r.toInt = 0 ∨ WNi obg0 p0.toInt (obg1 p0.toNatClampNeg).toInt)) (fun (_ : Unit) tZ => Bw D k (va_A [(ob, .inr (8, [.ref ob_0, .ref ob_1, .ref ob_2, .int obv3])), (ob_0, .inl (k 2, 240, .inr (.inl obg0))), (ob_1, .inl (k 0, 4, .inl obg1))] sz) [(ob, .inr (8, [.ref ob_0, .ref ob_1, .ref ob_2, .int obv3])), (ob_0, .inl (k 2, 240, .inr (.inl obg0))), (ob_1, .inl (k 0, 4, .inl obg1))] tZ) (va_A [(ob, .inr (8, [.ref ob_0, .ref ob_1, .ref ob_2, .int obv3])), (ob_0, .inl (k 2, 240, .inr (.inl obg0))), (ob_1, .inl (k 0, 4, .inl obg1))] sz)) 0 0 (va_A [(ob, .inr (8, [.ref ob_0, .ref ob_1, .ref ob_2, .int obv3])), (ob_0, .inl (k 2, 240, .inr (.inl obg0))), (ob_1, .inl (k 0, 4, .inl obg1))] sz) := by
  refine Met.ofW (cc := cX8_tellsSights) (maxL := 8) (ret := (some .boolean)) (by decide +kernel) rfl ?_
  intro p e s m args below meth c s₁ B hml hv
  obtain ⟨rfl, hsz, hP, hK, hD0, hN⟩ := hv
  have hx := B.exec
  have hb := B.bytes
  have hr := B.returns
  have hts : ∀ w ∈ TT, w.before _ s = true := fun w h => atoms_spec (ws := ww yX8_tellsSights cX8_tellsSights 8 (some .boolean)) B.pre w (List.mem_cons_of_mem _ h)
  have hown : s.vm.findClass RX8 = some m.cls := findClass_of_methodNamed B.named
  have hlocks := B.notSynchronized
  subst hsz
  have hD := hD0.self (sz := s.heap.size)
  generalize hAe : va_A [(ob, .inr (8, [.ref ob_0, .ref ob_1, .ref ob_2, .int obv3])), (ob_0, .inl (k 2, 240, .inr (.inl obg0))), (ob_1, .inl (k 0, 4, .inl obg1))] s.heap.size = A at hD ⊢
  have hA : ∀ q : Nat, s.heap.size ≤ q → A q := fun q h => by rw [← hAe]; exact Or.inr h
  have hS : va_S A s.heap s.heap [] := va_S.rf
  have hl := lv_entry ([.ref ob, .int p0, .int p1]) (n := 8) (Nat.le_of_ble_eq_true rfl)
  rw [lg_entry_eq]
  generalize (lg_sl ([.ref ob, .int p0, .int p1]) ++ List.replicate (8 - (lg_sl ([.ref ob, .int p0, .int p1])).length) Slot.unset).toArray = ls at hl ⊢
  have hl : lv_has ls 8 [(0, .ref ob), (1, .int p0), (2, .int p1)] := hl
  refine lv_aload_n hx hb dX8_tellsSights_0 rfl (lv_at hl 0 rfl) ?_
  refine lv_iload_n hx hb dX8_tellsSights_1 rfl (lv_at hl 1 rfl) ?_
  obtain ⟨hPc, hDc, hFc⟩ := sub3 hP hD hS hA (ws' := [(ob, .inr (8, [.ref ob_0, .ref ob_1, .ref ob_2, .int obv3])), (ob_1, .inl (k 0, 4, .inl obg1))]) [0, 2] (by decide +kernel) rfl
  refine va_calli (va_runV (C := RX8) (As := [.int p0]) (rest := []) ⟨hx, hb, hml, hown, hts⟩ (c_X8_length l D k ob p0 ob_0 ob_1 ob_2 obv3 obg1 s.heap.size (show 0 ≤ p0.toInt ∧ p0.toInt ≤ 3 from by omega) hp_obg1_0) (cwV 1 hts (gV tw_4_224 tw_4_225 tw_4_226 tw_1_5 tw_4_227) rfl rfl rfl hdV_X8_length ⟨Nat.le_of_ble_eq_true rfl, Nat.le_of_ble_eq_true rfl⟩) (cz_V hK hPc hDc hN (ci := 8) (q0 := 0) rfl rfl [.int p0]) rfl rfl hl.1 rfl (lv_room (Nat.le_of_ble_eq_true rfl)) dX8_tellsSights_2 ⟨Nat.le_of_ble_eq_true rfl, Nat.le_of_ble_eq_true rfl⟩) hS (fun q _ h => hFc q h) hFc (fun r_1 uZ tZ H1 locs ht hvm hw hB hz1 hk1 hS => ?_)
  obtain ⟨hP1, hK1, hD1⟩ := hB
  rw [ht] at hP1
  obtain ⟨hP, hD⟩ := va_join (wr := [(ob_0, .inl (k 2, 240, .inr (.inl obg0)))]) (w1 := [(ob, .inr (8, [.ref ob_0, .ref ob_1, .ref ob_2, .int obv3])), (ob_1, .inl (k 0, 4, .inl obg1))]) hP hD [0, 2] [1] rfl rfl (by decide +kernel) (by decide +kernel) hk1 hFc hP1 hD1
  clear hK1 hP1 hD1 hPc hDc hFc
  clear hk1 hz1 ht hvm
  have hP : va_P D vwCl [(ob_0, .inl (k 2, 240, .inr (.inl obg0))), (ob, .inr (8, [.ref ob_0, .ref ob_1, .ref ob_2, .int obv3])), (ob_1, .inl (k 0, 4, .inl obg1))] H1 := hP
  have hD : va_D A [(ob_0, .inl (k 2, 240, .inr (.inl obg0))), (ob, .inr (8, [.ref ob_0, .ref ob_1, .ref ob_2, .int obv3])), (ob_1, .inl (k 0, 4, .inl obg1))] := hD
  generalize H1 = H at hP hS ⊢
  have hw_2 : (0 ≤ r_1.toInt ∧ r_1.toInt ≤ 60) ∧ (r_1 = obg1 p0.toNatClampNeg) := hw
  obtain ⟨hw_3, hw_4⟩ := hw_2
  clear hw
  refine lv_iconst (v := 2) hx hb dX8_tellsSights_5 (by decide) ?_
  refine lv_irem hx hb dX8_tellsSights_6 (by decide) ?_
  refine lv_topi (fun x_5 ex_5 => ?_)
  have zx_5 : x_5.toInt = r_1.toInt % 2 := by rw [ex_5]; exact z_rem rfl rfl (by omega) (by decide) (by decide)
  refine lv_if_eq (tgt := 12) hx hb dX8_tellsSights_7 (by decide) (fun h_6 => ?_) (fun h_6 => ?_)
  · skip
    have zh_6 : x_5.toInt = 0 := z_eq h_6
    refine lv_iconst (v := 0) hx hb dX8_tellsSights_12 (by decide) ?_
    refine lv_istore_n (lv' := [(3, .int 0), (0, .ref ob), (1, .int p0), (2, .int p1)]) hx hb dX8_tellsSights_13 rfl hl (by decide) rfl (fun ls hl => ?_)
    refine loop_r (Wg := fun H locs ls => W p l e _ s m _ below meth c H locs _ _ _ (F0 m 14 ls [])) (fun n9 H locs ls => ∃ (L14l3 : Int32), n9 = (61 - L14l3.toInt).toNat ∧ (0 ≤ L14l3.toInt ∧ L14l3.toInt ≤ 61) ∧ (L14l3.toInt % 2 = 0) ∧ (WNi obg0 p0.toInt L14l3.toInt) ∧ va_P D vwCl [(ob_0, .inl (k 2, 240, .inr (.inl obg0))), (ob, .inr (8, [.ref ob_0, .ref ob_1, .ref ob_2, .int obv3])), (ob_1, .inl (k 0, 4, .inl obg1))] H ∧ va_D A [(ob_0, .inl (k 2, 240, .inr (.inl obg0))), (ob, .inr (8, [.ref ob_0, .ref ob_1, .ref ob_2, .int obv3])), (ob_1, .inl (k 0, 4, .inl obg1))] ∧ va_S A s.heap H locs ∧ lv_has ls 8 [(0, .ref ob), (1, .int p0), (2, .int p1), (3, .int L14l3)]) (fun n9 H locs ls hI ih_7 => ?_) _ _ _ _ ⟨0, rfl, (show 0 ≤ 0 ∧ 0 ≤ 61 from by omega), (show 0 % 2 = 0 from by omega), (WNi.zero _ _), hP.sub (ws' := [(ob_0, .inl (k 2, 240, .inr (.inl obg0))), (ob, .inr (8, [.ref ob_0, .ref ob_1, .ref ob_2, .int obv3])), (ob_1, .inl (k 0, 4, .inl obg1))]) [0, 1, 2] rfl, hD.sub (ws' := [(ob_0, .inl (k 2, 240, .inr (.inl obg0))), (ob, .inr (8, [.ref ob_0, .ref ob_1, .ref ob_2, .int obv3])), (ob_1, .inl (k 0, 4, .inl obg1))]) [0, 1, 2] (by decide +kernel) rfl, hS, lv_sub hl [1, 2, 3, 0] rfl⟩
    clear hP hD hS hl
    obtain ⟨L14l3, en_8, zL14l3, hi14x0, hi14x1, hP, hD, hS, hl⟩ := hI
    refine lv_iload_n hx hb dX8_tellsSights_14 rfl (lv_at hl 3 rfl) ?_
    refine lv_aload_n hx hb dX8_tellsSights_15 rfl (lv_at hl 0 rfl) ?_
    refine lv_iload_n hx hb dX8_tellsSights_16 rfl (lv_at hl 1 rfl) ?_
    obtain ⟨hPc, hDc, hFc⟩ := sub3 hP hD hS hA (ws' := [(ob, .inr (8, [.ref ob_0, .ref ob_1, .ref ob_2, .int obv3])), (ob_1, .inl (k 0, 4, .inl obg1))]) [1, 2] (by decide +kernel) rfl
    refine va_calli (va_runV (C := RX8) (As := [.int p0]) (rest := [.int L14l3]) ⟨hx, hb, hml, hown, hts⟩ (c_X8_length l D k ob p0 ob_0 ob_1 ob_2 obv3 obg1 H.size (show 0 ≤ p0.toInt ∧ p0.toInt ≤ 3 from by omega) hp_obg1_0) (cwV 1 hts (gV tw_4_224 tw_4_225 tw_4_226 tw_1_5 tw_4_227) rfl rfl rfl hdV_X8_length ⟨Nat.le_of_ble_eq_true rfl, Nat.le_of_ble_eq_true rfl⟩) (cz_V hK hPc hDc hN (ci := 8) (q0 := 0) rfl rfl [.int p0]) rfl rfl hl.1 rfl (lv_room (Nat.le_of_ble_eq_true rfl)) dX8_tellsSights_17 ⟨Nat.le_of_ble_eq_true rfl, Nat.le_of_ble_eq_true rfl⟩) hS (fun q _ h => hFc q h) hFc (fun r_9 uZ tZ H1 locs ht hvm hw hB hz1 hk1 hS => ?_)
    obtain ⟨hP1, hK1, hD1⟩ := hB
    rw [ht] at hP1
    obtain ⟨hP, hD⟩ := va_join (wr := [(ob_0, .inl (k 2, 240, .inr (.inl obg0)))]) (w1 := [(ob, .inr (8, [.ref ob_0, .ref ob_1, .ref ob_2, .int obv3])), (ob_1, .inl (k 0, 4, .inl obg1))]) hP hD [1, 2] [0] rfl rfl (by decide +kernel) (by decide +kernel) hk1 hFc hP1 hD1
    clear hK1 hP1 hD1 hPc hDc hFc
    clear hk1 hz1 ht hvm
    have hP : va_P D vwCl [(ob_0, .inl (k 2, 240, .inr (.inl obg0))), (ob, .inr (8, [.ref ob_0, .ref ob_1, .ref ob_2, .int obv3])), (ob_1, .inl (k 0, 4, .inl obg1))] H1 := hP
    have hD : va_D A [(ob_0, .inl (k 2, 240, .inr (.inl obg0))), (ob, .inr (8, [.ref ob_0, .ref ob_1, .ref ob_2, .int obv3])), (ob_1, .inl (k 0, 4, .inl obg1))] := hD
    generalize H1 = H at hP hS ⊢
    have hw_10 : (0 ≤ r_9.toInt ∧ r_9.toInt ≤ 60) ∧ (r_9 = obg1 p0.toNatClampNeg) := hw
    obtain ⟨hw_11, hw_12⟩ := hw_10
    clear hw
    obtain rfl : r_1 = r_9 := hw_4.trans hw_12.symm
    refine lv_icmp_ge (tgt := 82) hx hb dX8_tellsSights_20 (by decide) (fun h_13 => ?_) (fun h_13 => ?_)
    · skip
      have zh_13 : r_1.toInt ≤ L14l3.toInt := z_le h_13
      refine lv_iconst (v := 1) hx hb dX8_tellsSights_82 (by decide) ?_
      obtain ⟨hP9, hD9⟩ := sub2 hP hD (ws' := [(ob, .inr (8, [.ref ob_0, .ref ob_1, .ref ob_2, .int obv3])), (ob_0, .inl (k 2, 240, .inr (.inl obg0))), (ob_1, .inl (k 0, 4, .inl obg1))]) [1, 0, 2] (by decide +kernel) rfl
      exact W.zret (v := 1) hx hb hr (by decide) (fun tZ ht hW => ⟨⟨1, (), rfl, ⟨(show 0 ≤ 1 ∧ 1 ≤ 1 from by omega), (Or.inr (show WNi obg0 p0.toInt (obg1 p0.toNatClampNeg).toInt from hi14x1.mono (by have q7 := congrArg Int32.toInt hw_12; omega)))⟩, by rw [ht]; exact hP9, va_K.moved hW.alike hK, hD9⟩, hS.F ht⟩) hS.2.2 dX8_tellsSights_83
    · skip
      have zh_13 : L14l3.toInt < r_1.toInt := z_nle h_13
      refine lv_aload_n hx hb dX8_tellsSights_23 rfl (lv_at hl 0 rfl) ?_
      refine lv_iload_n hx hb dX8_tellsSights_24 rfl (lv_at hl 1 rfl) ?_
      refine lv_iload_n hx hb dX8_tellsSights_25 rfl (lv_at hl 3 rfl) ?_
      obtain ⟨hPc, hDc, hFc⟩ := sub3 hP hD hS hA (ws' := [(ob, .inr (8, [.ref ob_0, .ref ob_1, .ref ob_2, .int obv3])), (ob_0, .inl (k 2, 240, .inr (.inl obg0))), (ob_1, .inl (k 0, 4, .inl obg1))]) [1, 0, 2] (by decide +kernel) rfl
      refine va_calll (va_runV (C := RX8) (As := [.int p0, .int L14l3]) (rest := []) ⟨hx, hb, hml, hown, hts⟩ (c_X8_number l D k ob p0 L14l3 ob_0 ob_1 ob_2 obv3 obg0 obg1 H.size (show 0 ≤ p0.toInt ∧ p0.toInt ≤ 3 from by omega) hp_obg1_0) (cwV 2 hts (gV tw_4_229 tw_4_230 tw_4_231 tw_1_5 tw_4_232) rfl rfl rfl hdV_X8_number ⟨Nat.le_of_ble_eq_true rfl, Nat.le_of_ble_eq_true rfl⟩) (cz_V hK hPc hDc hN (ci := 8) (q0 := 0) rfl rfl [.int p0, .int L14l3]) rfl rfl hl.1 rfl (lv_room (Nat.le_of_ble_eq_true rfl)) dX8_tellsSights_26 ⟨Nat.le_of_ble_eq_true rfl, Nat.le_of_ble_eq_true rfl⟩) hS (fun q _ h => hFc q h) hFc (fun r_14 uZ tZ H1 locs ht hvm hw hB hz1 hk1 hS => ?_)
      obtain ⟨hP1, hK1, hD1⟩ := hB
      rw [ht] at hP1
      obtain ⟨hP, hD⟩ := va_join (wr := []) (w1 := [(ob, .inr (8, [.ref ob_0, .ref ob_1, .ref ob_2, .int obv3])), (ob_0, .inl (k 2, 240, .inr (.inl obg0))), (ob_1, .inl (k 0, 4, .inl obg1))]) hP hD [1, 0, 2] [] rfl rfl (by decide +kernel) (by decide +kernel) hk1 hFc hP1 hD1
      clear hK1 hP1 hD1 hPc hDc hFc
      clear hk1 hz1 ht hvm
      have hP : va_P D vwCl [(ob, .inr (8, [.ref ob_0, .ref ob_1, .ref ob_2, .int obv3])), (ob_0, .inl (k 2, 240, .inr (.inl obg0))), (ob_1, .inl (k 0, 4, .inl obg1))] H1 := hP
      have hD : va_D A [(ob, .inr (8, [.ref ob_0, .ref ob_1, .ref ob_2, .int obv3])), (ob_0, .inl (k 2, 240, .inr (.inl obg0))), (ob_1, .inl (k 0, 4, .inl obg1))] := hD
      generalize H1 = H at hP hS ⊢
      have hw_15 : (NUMq obg0 p0.toInt L14l3.toInt (obg1 p0.toNatClampNeg).toInt r_14) := hw
      have hw_16 := hw_15
      clear hw
      refine lv_lstore (lv' := [(4, .long r_14), (0, .ref ob), (1, .int p0), (2, .int p1), (3, .int L14l3)]) hx hb dX8_tellsSights_29 hl (by decide) rfl (fun ls hl => ?_)
      refine lv_aload_n hx hb dX8_tellsSights_31 rfl (lv_at hl 1 rfl) ?_
      refine lv_iload_n hx hb dX8_tellsSights_32 rfl (lv_at hl 2 rfl) ?_
      refine lv_iload_n hx hb dX8_tellsSights_33 rfl (lv_at hl 4 rfl) ?_
      refine lv_iconst (v := 1) hx hb dX8_tellsSights_34 (by decide) ?_
      refine lv_iadd hx hb dX8_tellsSights_35 ?_
      refine lv_topi (fun x_17 ex_17 => ?_)
      have zx_17 : x_17.toInt = L14l3.toInt + 1 := by rw [ex_17]; exact z_add rfl rfl (by omega) (by omega)
      obtain ⟨hPc, hDc, hFc⟩ := sub3 hP hD hS hA (ws' := [(ob, .inr (8, [.ref ob_0, .ref ob_1, .ref ob_2, .int obv3])), (ob_0, .inl (k 2, 240, .inr (.inl obg0))), (ob_1, .inl (k 0, 4, .inl obg1))]) [0, 1, 2] (by decide +kernel) rfl
      refine va_calll (va_runV (C := RX8) (As := [.int p0, .int x_17]) (rest := []) ⟨hx, hb, hml, hown, hts⟩ (c_X8_number l D k ob p0 x_17 ob_0 ob_1 ob_2 obv3 obg0 obg1 H.size (show 0 ≤ p0.toInt ∧ p0.toInt ≤ 3 from by omega) hp_obg1_0) (cwV 2 hts (gV tw_4_229 tw_4_230 tw_4_231 tw_1_5 tw_4_232) rfl rfl rfl hdV_X8_number ⟨Nat.le_of_ble_eq_true rfl, Nat.le_of_ble_eq_true rfl⟩) (cz_V hK hPc hDc hN (ci := 8) (q0 := 0) rfl rfl [.int p0, .int x_17]) rfl rfl hl.1 rfl (lv_room (Nat.le_of_ble_eq_true rfl)) dX8_tellsSights_36 ⟨Nat.le_of_ble_eq_true rfl, Nat.le_of_ble_eq_true rfl⟩) hS (fun q _ h => hFc q h) hFc (fun r_18 uZ tZ H1 locs ht hvm hw hB hz1 hk1 hS => ?_)
      obtain ⟨hP1, hK1, hD1⟩ := hB
      rw [ht] at hP1
      obtain ⟨hP, hD⟩ := va_join (wr := []) (w1 := [(ob, .inr (8, [.ref ob_0, .ref ob_1, .ref ob_2, .int obv3])), (ob_0, .inl (k 2, 240, .inr (.inl obg0))), (ob_1, .inl (k 0, 4, .inl obg1))]) hP hD [0, 1, 2] [] rfl rfl (by decide +kernel) (by decide +kernel) hk1 hFc hP1 hD1
      clear hK1 hP1 hD1 hPc hDc hFc
      clear hk1 hz1 ht hvm
      have hP : va_P D vwCl [(ob, .inr (8, [.ref ob_0, .ref ob_1, .ref ob_2, .int obv3])), (ob_0, .inl (k 2, 240, .inr (.inl obg0))), (ob_1, .inl (k 0, 4, .inl obg1))] H1 := hP
      have hD : va_D A [(ob, .inr (8, [.ref ob_0, .ref ob_1, .ref ob_2, .int obv3])), (ob_0, .inl (k 2, 240, .inr (.inl obg0))), (ob_1, .inl (k 0, 4, .inl obg1))] := hD
      generalize H1 = H at hP hS ⊢
      have hw_19 : (NUMq obg0 p0.toInt x_17.toInt (obg1 p0.toNatClampNeg).toInt r_18) := hw
      have hw_20 := hw_19
      clear hw
      refine lv_lstore (lv' := [(6, .long r_18), (4, .long r_14), (0, .ref ob), (1, .int p0), (2, .int p1), (3, .int L14l3)]) hx hb dX8_tellsSights_39 hl (by decide) rfl (fun ls hl => ?_)
      refine lv_lload hx hb dX8_tellsSights_41 (lv_at hl 1 rfl) ?_
      refine lv_lconst (v := 0) hx hb dX8_tellsSights_43 (by decide) ?_
      refine W.lcmp hx hb dX8_tellsSights_44 ?_
      refine lv_if_lt (tgt := 74) hx hb dX8_tellsSights_45 (by decide) (fun h_21 => ?_) (fun h_21 => ?_)
      · skip
        have zh_21 : r_14.toInt < 0 := zL_lt h_21 rfl rfl
        refine lv_iconst (v := 0) hx hb dX8_tellsSights_74 (by decide) ?_
        obtain ⟨hP9, hD9⟩ := sub2 hP hD (ws' := [(ob, .inr (8, [.ref ob_0, .ref ob_1, .ref ob_2, .int obv3])), (ob_0, .inl (k 2, 240, .inr (.inl obg0))), (ob_1, .inl (k 0, 4, .inl obg1))]) [0, 1, 2] (by decide +kernel) rfl
        exact W.zret (v := 0) hx hb hr (by decide) (fun tZ ht hW => ⟨⟨0, (), rfl, ⟨(show 0 ≤ 0 ∧ 0 ≤ 1 from by omega), (Or.inl rfl)⟩, by rw [ht]; exact hP9, va_K.moved hW.alike hK, hD9⟩, hS.F ht⟩) hS.2.2 dX8_tellsSights_75
      · skip
        have zh_21 : 0 ≤ r_14.toInt := zL_nlt h_21 rfl rfl
        refine lv_lload hx hb dX8_tellsSights_48 (lv_at hl 1 rfl) ?_
        refine lv_iload_n hx hb dX8_tellsSights_50 rfl (lv_at hl 4 rfl) ?_
        refine lv_i2l (v := p1.toInt64) hx hb dX8_tellsSights_51 rfl ?_
        refine W.lcmp hx hb dX8_tellsSights_52 ?_
        refine lv_if_ge (tgt := 74) hx hb dX8_tellsSights_53 (by decide) (fun h_22 => ?_) (fun h_22 => ?_)
        · skip
          have zh_22 : p1.toInt ≤ r_14.toInt := zL_ge h_22 rfl (Int32.toInt_toInt64 _)
          refine lv_iconst (v := 0) hx hb dX8_tellsSights_74 (by decide) ?_
          obtain ⟨hP9, hD9⟩ := sub2 hP hD (ws' := [(ob, .inr (8, [.ref ob_0, .ref ob_1, .ref ob_2, .int obv3])), (ob_0, .inl (k 2, 240, .inr (.inl obg0))), (ob_1, .inl (k 0, 4, .inl obg1))]) [0, 1, 2] (by decide +kernel) rfl
          exact W.zret (v := 0) hx hb hr (by decide) (fun tZ ht hW => ⟨⟨0, (), rfl, ⟨(show 0 ≤ 0 ∧ 0 ≤ 1 from by omega), (Or.inl rfl)⟩, by rw [ht]; exact hP9, va_K.moved hW.alike hK, hD9⟩, hS.F ht⟩) hS.2.2 dX8_tellsSights_75
        · skip
          have zh_22 : r_14.toInt < p1.toInt := zL_nge h_22 rfl (Int32.toInt_toInt64 _)
          refine lv_lload hx hb dX8_tellsSights_56 (lv_at hl 0 rfl) ?_
          refine lv_ldc2 (v := (-1)) hx hb hown (hts _ tw_4_233) dX8_tellsSights_58 ?_
          refine W.lcmp hx hb dX8_tellsSights_61 ?_
          refine lv_if_lt (tgt := 74) hx hb dX8_tellsSights_62 (by decide) (fun h_23 => ?_) (fun h_23 => ?_)
          · skip
            have zh_23 : r_18.toInt < (-1) := zL_lt h_23 rfl rfl
            refine lv_iconst (v := 0) hx hb dX8_tellsSights_74 (by decide) ?_
            obtain ⟨hP9, hD9⟩ := sub2 hP hD (ws' := [(ob, .inr (8, [.ref ob_0, .ref ob_1, .ref ob_2, .int obv3])), (ob_0, .inl (k 2, 240, .inr (.inl obg0))), (ob_1, .inl (k 0, 4, .inl obg1))]) [0, 1, 2] (by decide +kernel) rfl
            exact W.zret (v := 0) hx hb hr (by decide) (fun tZ ht hW => ⟨⟨0, (), rfl, ⟨(show 0 ≤ 0 ∧ 0 ≤ 1 from by omega), (Or.inl rfl)⟩, by rw [ht]; exact hP9, va_K.moved hW.alike hK, hD9⟩, hS.F ht⟩) hS.2.2 dX8_tellsSights_75
          · skip
            have zh_23 : (-1) ≤ r_18.toInt := zL_nlt h_23 rfl rfl
            refine lv_lload hx hb dX8_tellsSights_65 (lv_at hl 0 rfl) ?_
            refine lv_ldc2 (v := 999) hx hb hown (hts _ tw_4_234) dX8_tellsSights_67 ?_
            refine W.lcmp hx hb dX8_tellsSights_70 ?_
            refine lv_if_le (tgt := 76) hx hb dX8_tellsSights_71 (by decide) (fun h_24 => ?_) (fun h_24 => ?_)
            · skip
              have zh_24 : r_18.toInt ≤ 999 := zL_le h_24 rfl rfl
              obtain ⟨x_25, ex_25⟩ : ∃ y : Int32, y = L14l3 + 2 := ⟨_, rfl⟩
              have zx_25 : x_25.toInt = L14l3.toInt + 2 := by rw [ex_25]; exact z_add rfl rfl (by omega) (by omega)
              refine lv_iinc (v := x_25) (lv' := [(3, .int x_25), (6, .long r_18), (4, .long r_14), (0, .ref ob), (1, .int p0), (2, .int p1)]) hx hb dX8_tellsSights_76 hl (k := 5) rfl (by rw [ex_25]; rfl) (by decide) rfl (fun ls hl => ?_)
              refine lv_goto (tgt := 14) hx hb dX8_tellsSights_79 (by decide) ?_
              exact ih_7 _ _ _ _ (by omega) ⟨x_25, rfl, (show 0 ≤ x_25.toInt ∧ x_25.toInt ≤ 61 from by omega), (show x_25.toInt % 2 = 0 from by omega), (show WNi obg0 p0.toInt x_25.toInt from by rw [show x_25.toInt = L14l3.toInt + 2 from by omega]; exact hw_16.cs (fun _ q6 => False.elim (by have q7 := congrArg Int32.toInt hw_12; omega)) (fun ix _ _ q9 q8 => hi14x1.step (ix := ix) (by omega) (by omega) (by omega) (by omega) (by rw [← q8]; omega) (by rw [← q8]; omega))), hP.sub (ws' := [(ob_0, .inl (k 2, 240, .inr (.inl obg0))), (ob, .inr (8, [.ref ob_0, .ref ob_1, .ref ob_2, .int obv3])), (ob_1, .inl (k 0, 4, .inl obg1))]) [1, 0, 2] rfl, hD.sub (ws' := [(ob_0, .inl (k 2, 240, .inr (.inl obg0))), (ob, .inr (8, [.ref ob_0, .ref ob_1, .ref ob_2, .int obv3])), (ob_1, .inl (k 0, 4, .inl obg1))]) [1, 0, 2] (by decide +kernel) rfl, hS, lv_sub hl [3, 4, 5, 0] rfl⟩
            · skip
              have zh_24 : 999 < r_18.toInt := zL_nle h_24 rfl rfl
              refine lv_iconst (v := 0) hx hb dX8_tellsSights_74 (by decide) ?_
              obtain ⟨hP9, hD9⟩ := sub2 hP hD (ws' := [(ob, .inr (8, [.ref ob_0, .ref ob_1, .ref ob_2, .int obv3])), (ob_0, .inl (k 2, 240, .inr (.inl obg0))), (ob_1, .inl (k 0, 4, .inl obg1))]) [0, 1, 2] (by decide +kernel) rfl
              exact W.zret (v := 0) hx hb hr (by decide) (fun tZ ht hW => ⟨⟨0, (), rfl, ⟨(show 0 ≤ 0 ∧ 0 ≤ 1 from by omega), (Or.inl rfl)⟩, by rw [ht]; exact hP9, va_K.moved hW.alike hK, hD9⟩, hS.F ht⟩) hS.2.2 dX8_tellsSights_75
  · skip
    have zh_6 : ¬ x_5.toInt = 0 := z_ne h_6
    refine lv_iconst (v := 0) hx hb dX8_tellsSights_10 (by decide) ?_
    obtain ⟨hP9, hD9⟩ := sub2 hP hD (ws' := [(ob, .inr (8, [.ref ob_0, .ref ob_1, .ref ob_2, .int obv3])), (ob_0, .inl (k 2, 240, .inr (.inl obg0))), (ob_1, .inl (k 0, 4, .inl obg1))]) [1, 0, 2] (by decide +kernel) rfl
    exact W.zret (v := 0) hx hb hr (by decide) (fun tZ ht hW => ⟨⟨0, (), rfl, ⟨(show 0 ≤ 0 ∧ 0 ≤ 1 from by omega), (Or.inl rfl)⟩, by rw [ht]; exact hP9, va_K.moved hW.alike hK, hD9⟩, hS.F ht⟩) hS.2.2 dX8_tellsSights_11
set_option maxHeartbeats 4000000 in
set_option maxRecDepth 100000 in
theorem c_X9_hasRoom (l : Launch) (D : va_G) (k : Nat → ClassId) (ob : Nat) (obv0 : Int32) (obv1 : Int32) (obv2 : Int32) (obd : Nat) (ob_4 : Nat) (obv5 : Int32) (obv6 : Int32) (obv7 : Int32) (obv8 : Int32) (sz : Nat) (h_obv0 : 0 ≤ obv0.toInt ∧ obv0.toInt ≤ 1000) : Met l yX9_hasRoom (ww yX9_hasRoom cX9_hasRoom 1 (some .boolean)) ({ frames := 0, cells := 0, slots := 0, locals := 0 }) (Pre0 D k [(ob, .inr (9, [.int obv0, .int obv1, .int obv2, .ref obd, .ref ob_4, .int obv5, .int obv6, .int obv7, .int obv8]))] sz [.ref ob]) (va_Qi (fun (r : Int32) (_ : Unit) => (0 ≤ r.toInt ∧ r.toInt ≤ 1)) (fun (_ : Unit) tZ => Bw D k (va_A [(ob, .inr (9, [.int obv0, .int obv1, .int obv2, .ref obd, .ref ob_4, .int obv5, .int obv6, .int obv7, .int obv8]))] sz) [(ob, .inr (9, [.int obv0, .int obv1, .int obv2, .ref obd, .ref ob_4, .int obv5, .int obv6, .int obv7, .int obv8]))] tZ) (va_A [(ob, .inr (9, [.int obv0, .int obv1, .int obv2, .ref obd, .ref ob_4, .int obv5, .int obv6, .int obv7, .int obv8]))] sz)) 0 0 (va_A [(ob, .inr (9, [.int obv0, .int obv1, .int obv2, .ref obd, .ref ob_4, .int obv5, .int obv6, .int obv7, .int obv8]))] sz) := by
  refine Met.ofW (cc := cX9_hasRoom) (maxL := 1) (ret := (some .boolean)) (by decide +kernel) rfl ?_
  intro p e s m args below meth c s₁ B hml hv
  obtain ⟨rfl, hsz, hP, hK, hD0, hN⟩ := hv
  have hx := B.exec
  have hb := B.bytes
  have hr := B.returns
  have hts : ∀ w ∈ TT, w.before _ s = true := fun w h => atoms_spec (ws := ww yX9_hasRoom cX9_hasRoom 1 (some .boolean)) B.pre w (List.mem_cons_of_mem _ h)
  have hown : s.vm.findClass RX9 = some m.cls := findClass_of_methodNamed B.named
  have hlocks := B.notSynchronized
  subst hsz
  have hD := hD0.self (sz := s.heap.size)
  generalize hAe : va_A [(ob, .inr (9, [.int obv0, .int obv1, .int obv2, .ref obd, .ref ob_4, .int obv5, .int obv6, .int obv7, .int obv8]))] s.heap.size = A at hD ⊢
  have hA : ∀ q : Nat, s.heap.size ≤ q → A q := fun q h => by rw [← hAe]; exact Or.inr h
  have hS : va_S A s.heap s.heap [] := va_S.rf
  have hl := lv_entry ([.ref ob]) (n := 1) (Nat.le_of_ble_eq_true rfl)
  rw [lg_entry_eq]
  generalize (lg_sl ([.ref ob]) ++ List.replicate (1 - (lg_sl ([.ref ob])).length) Slot.unset).toArray = ls at hl ⊢
  have hl : lv_has ls 1 [(0, .ref ob)] := hl
  refine lv_aload_n hx hb dX9_hasRoom_0 rfl (lv_at hl 0 rfl) ?_
  refine va_get (D := D) (ci := 9) (v := .int obv0) (C := RX9) (T := TX9) (N := 9) hx hb hts iT_X9 hown hK hP 0 rfl rfl 0 (by decide) (hts _ tw_1_195) (fun _ h9 => h9) rfl dX9_hasRoom_1 ?_
  refine lv_bipush (v := 20) hx hb dX9_hasRoom_4 (by decide) ?_
  refine lv_iadd hx hb dX9_hasRoom_6 ?_
  refine lv_topi (fun x_1 ex_1 => ?_)
  have zx_1 : x_1.toInt = obv0.toInt + 20 := by rw [ex_1]; exact z_add rfl rfl (by omega) (by omega)
  refine lv_sipush (v := 1000) hx hb dX9_hasRoom_7 (by decide) ?_
  refine lv_icmp_gt (tgt := 17) hx hb dX9_hasRoom_10 (by decide) (fun h_2 => ?_) (fun h_2 => ?_)
  · skip
    have zh_2 : 1000 < x_1.toInt := z_lt h_2
    refine lv_iconst (v := 0) hx hb dX9_hasRoom_17 (by decide) ?_
    obtain ⟨hP9, hD9⟩ := sub2 hP hD (ws' := [(ob, .inr (9, [.int obv0, .int obv1, .int obv2, .ref obd, .ref ob_4, .int obv5, .int obv6, .int obv7, .int obv8]))]) [0] (by decide +kernel) rfl
    exact W.zret (v := 0) hx hb hr (by decide) (fun tZ ht hW => ⟨⟨0, (), rfl, (show 0 ≤ 0 ∧ 0 ≤ 1 from by omega), by rw [ht]; exact hP9, va_K.moved hW.alike hK, hD9⟩, hS.F ht⟩) hS.2.2 dX9_hasRoom_18
  · skip
    have zh_2 : x_1.toInt ≤ 1000 := z_nlt h_2
    refine lv_iconst (v := 1) hx hb dX9_hasRoom_13 (by decide) ?_
    refine lv_goto (tgt := 18) hx hb dX9_hasRoom_14 (by decide) ?_
    obtain ⟨hP9, hD9⟩ := sub2 hP hD (ws' := [(ob, .inr (9, [.int obv0, .int obv1, .int obv2, .ref obd, .ref ob_4, .int obv5, .int obv6, .int obv7, .int obv8]))]) [0] (by decide +kernel) rfl
    exact W.zret (v := 1) hx hb hr (by decide) (fun tZ ht hW => ⟨⟨1, (), rfl, (show 0 ≤ 1 ∧ 1 ≤ 1 from by omega), by rw [ht]; exact hP9, va_K.moved hW.alike hK, hD9⟩, hS.F ht⟩) hS.2.2 dX9_hasRoom_18
set_option maxHeartbeats 4000000 in
set_option maxRecDepth 100000 in
theorem c_X9_append (l : Launch) (D : va_G) (k : Nat → ClassId) (ob : Nat) (p0 : Int32) (obv0 : Int32) (obv1 : Int32) (obv2 : Int32) (obd : Nat) (ob_4 : Nat) (obv5 : Int32) (obv6 : Int32) (obv7 : Int32) (obv8 : Int32) (obg4 : Nat → Int32) (sz : Nat) (h_obv0 : 0 ≤ obv0.toInt ∧ obv0.toInt ≤ 1000) : Met l yX9_append (ww yX9_append cX9_append 3 none) ({ frames := 0, cells := 0, slots := 0, locals := 0 }) (Pre0 D k [(ob, .inr (9, [.int obv0, .int obv1, .int obv2, .ref obd, .ref ob_4, .int obv5, .int obv6, .int obv7, .int obv8])), (ob_4, .inl (k 1, 1000, .inl obg4))] sz [.ref ob, .int p0]) (va_Qv (fun (u : Int32 × (Nat → Int32)) => match u with | (obv0z, obg4z) => (0 ≤ obv0z.toInt ∧ obv0z.toInt ≤ 1000)) (fun (u : Int32 × (Nat → Int32)) tZ => match u with | (obv0z, obg4z) => Bw D k (va_A [(ob, .inr (9, [.int obv0, .int obv1, .int obv2, .ref obd, .ref ob_4, .int obv5, .int obv6, .int obv7, .int obv8])), (ob_4, .inl (k 1, 1000, .inl obg4))] sz) [(ob, .inr (9, [.int obv0z, .int obv1, .int obv2, .ref obd, .ref ob_4, .int obv5, .int obv6, .int obv7, .int obv8])), (ob_4, .inl (k 1, 1000, .inl obg4z))] tZ) (va_A [(ob, .inr (9, [.int obv0, .int obv1, .int obv2, .ref obd, .ref ob_4, .int obv5, .int obv6, .int obv7, .int obv8])), (ob_4, .inl (k 1, 1000, .inl obg4))] sz)) 0 0 (va_A [(ob, .inr (9, [.int obv0, .int obv1, .int obv2, .ref obd, .ref ob_4, .int obv5, .int obv6, .int obv7, .int obv8])), (ob_4, .inl (k 1, 1000, .inl obg4))] sz) := by
  refine Met.ofW (cc := cX9_append) (maxL := 3) (ret := none) (by decide +kernel) rfl ?_
  intro p e s m args below meth c s₁ B hml hv
  obtain ⟨rfl, hsz, hP, hK, hD0, hN⟩ := hv
  have hx := B.exec
  have hb := B.bytes
  have hr := B.returns
  have hts : ∀ w ∈ TT, w.before _ s = true := fun w h => atoms_spec (ws := ww yX9_append cX9_append 3 none) B.pre w (List.mem_cons_of_mem _ h)
  have hown : s.vm.findClass RX9 = some m.cls := findClass_of_methodNamed B.named
  have hlocks := B.notSynchronized
  subst hsz
  have hD := hD0.self (sz := s.heap.size)
  generalize hAe : va_A [(ob, .inr (9, [.int obv0, .int obv1, .int obv2, .ref obd, .ref ob_4, .int obv5, .int obv6, .int obv7, .int obv8])), (ob_4, .inl (k 1, 1000, .inl obg4))] s.heap.size = A at hD ⊢
  have hA : ∀ q : Nat, s.heap.size ≤ q → A q := fun q h => by rw [← hAe]; exact Or.inr h
  have hS : va_S A s.heap s.heap [] := va_S.rf
  have hl := lv_entry ([.ref ob, .int p0]) (n := 3) (Nat.le_of_ble_eq_true rfl)
  rw [lg_entry_eq]
  generalize (lg_sl ([.ref ob, .int p0]) ++ List.replicate (3 - (lg_sl ([.ref ob, .int p0])).length) Slot.unset).toArray = ls at hl ⊢
  have hl : lv_has ls 3 [(0, .ref ob), (1, .int p0)] := hl
  refine lv_bipush (v := 24) hx hb dX9_append_0 (by decide) ?_
  refine lv_istore_n (lv' := [(2, .int 24), (0, .ref ob), (1, .int p0)]) hx hb dX9_append_2 rfl hl (by decide) rfl (fun ls hl => ?_)
  refine loop_r (Wg := fun H locs ls => W p l e _ s m _ below meth c H locs _ _ _ (F0 m 3 ls [])) (fun n9 H locs ls => ∃ (L3l2 : Int32) (L3f0x0 : Int32) (L3a1 : Nat → Int32), n9 = (L3l2.toInt - (-8)).toNat ∧ ((-8) ≤ L3l2.toInt ∧ L3l2.toInt ≤ 24) ∧ (0 ≤ L3f0x0.toInt ∧ L3f0x0.toInt ≤ 1000) ∧ va_P D vwCl [(ob, .inr (9, [.int L3f0x0, .int obv1, .int obv2, .ref obd, .ref ob_4, .int obv5, .int obv6, .int obv7, .int obv8])), (ob_4, .inl (k 1, 1000, .inl L3a1))] H ∧ va_D A [(ob, .inr (9, [.int L3f0x0, .int obv1, .int obv2, .ref obd, .ref ob_4, .int obv5, .int obv6, .int obv7, .int obv8])), (ob_4, .inl (k 1, 1000, .inl L3a1))] ∧ va_S A s.heap H locs ∧ lv_has ls 3 [(0, .ref ob), (1, .int p0), (2, .int L3l2)]) (fun n9 H locs ls hI ih_1 => ?_) _ _ _ _ ⟨24, obv0, obg4, rfl, (show (-8) ≤ 24 ∧ 24 ≤ 24 from by omega), (show 0 ≤ obv0.toInt ∧ obv0.toInt ≤ 1000 from by omega), hP.sub (ws' := [(ob, .inr (9, [.int obv0, .int obv1, .int obv2, .ref obd, .ref ob_4, .int obv5, .int obv6, .int obv7, .int obv8])), (ob_4, .inl (k 1, 1000, .inl obg4))]) [0, 1] rfl, hD.sub (ws' := [(ob, .inr (9, [.int obv0, .int obv1, .int obv2, .ref obd, .ref ob_4, .int obv5, .int obv6, .int obv7, .int obv8])), (ob_4, .inl (k 1, 1000, .inl obg4))]) [0, 1] (by decide +kernel) rfl, hS, lv_sub hl [1, 2, 0] rfl⟩
  clear hP hD hS hl
  obtain ⟨L3l2, L3f0x0, L3a1, en_2, zL3l2, zL3f0x0, hP, hD, hS, hl⟩ := hI
  refine lv_iload_n hx hb dX9_append_3 rfl (lv_at hl 2 rfl) ?_
  refine lv_if_lt (tgt := 46) hx hb dX9_append_4 (by decide) (fun h_3 => ?_) (fun h_3 => ?_)
  · skip
    have zh_3 : L3l2.toInt < 0 := z_lt h_3
    obtain ⟨hP9, hD9⟩ := sub2 hP hD (ws' := [(ob, .inr (9, [.int L3f0x0, .int obv1, .int obv2, .ref obd, .ref ob_4, .int obv5, .int obv6, .int obv7, .int obv8])), (ob_4, .inl (k 1, 1000, .inl L3a1))]) [0, 1] (by decide +kernel) rfl
    exact W.vret hx hb hr (fun tZ ht hW => ⟨⟨(L3f0x0, L3a1), rfl, (show 0 ≤ L3f0x0.toInt ∧ L3f0x0.toInt ≤ 1000 from by omega), by rw [ht]; exact hP9, va_K.moved hW.alike hK, hD9⟩, hS.F ht⟩) hS.2.2 dX9_append_46
  · skip
    have zh_3 : 0 ≤ L3l2.toInt := z_nlt h_3
    refine lv_aload_n hx hb dX9_append_7 rfl (lv_at hl 0 rfl) ?_
    refine va_get (D := D) (ci := 9) (v := .int L3f0x0) (C := RX9) (T := TX9) (N := 9) hx hb hts iT_X9 hown hK hP 0 rfl rfl 0 (by decide) (hts _ tw_1_195) (fun _ h9 => h9) rfl dX9_append_8 ?_
    refine lv_sipush (v := 1000) hx hb dX9_append_11 (by decide) ?_
    refine lv_icmp_ge (tgt := 40) hx hb dX9_append_14 (by decide) (fun h_4 => ?_) (fun h_4 => ?_)
    · skip
      have zh_4 : 1000 ≤ L3f0x0.toInt := z_le h_4
      obtain ⟨x_5, ex_5⟩ : ∃ y : Int32, y = L3l2 + (-8) := ⟨_, rfl⟩
      have zx_5 : x_5.toInt = L3l2.toInt + (-8) := by rw [ex_5]; exact z_add rfl rfl (by omega) (by omega)
      refine lv_iinc (v := x_5) (lv' := [(2, .int x_5), (0, .ref ob), (1, .int p0)]) hx hb dX9_append_40 hl (k := 2) rfl (by rw [ex_5]; rfl) (by decide) rfl (fun ls hl => ?_)
      refine lv_goto (tgt := 3) hx hb dX9_append_43 (by decide) ?_
      exact ih_1 _ _ _ _ (by omega) ⟨x_5, L3f0x0, L3a1, rfl, (show (-8) ≤ x_5.toInt ∧ x_5.toInt ≤ 24 from by omega), (show 0 ≤ L3f0x0.toInt ∧ L3f0x0.toInt ≤ 1000 from by omega), hP.sub (ws' := [(ob, .inr (9, [.int L3f0x0, .int obv1, .int obv2, .ref obd, .ref ob_4, .int obv5, .int obv6, .int obv7, .int obv8])), (ob_4, .inl (k 1, 1000, .inl L3a1))]) [0, 1] rfl, hD.sub (ws' := [(ob, .inr (9, [.int L3f0x0, .int obv1, .int obv2, .ref obd, .ref ob_4, .int obv5, .int obv6, .int obv7, .int obv8])), (ob_4, .inl (k 1, 1000, .inl L3a1))]) [0, 1] (by decide +kernel) rfl, hS, lv_sub hl [1, 2, 0] rfl⟩
    · skip
      have zh_4 : L3f0x0.toInt < 1000 := z_nle h_4
      refine lv_aload_n hx hb dX9_append_17 rfl (lv_at hl 0 rfl) ?_
      refine va_get (D := D) (ci := 9) (v := .ref ob_4) (C := RX9) (T := TX9) (N := 9) hx hb hts iT_X9 hown hK hP 0 rfl rfl 4 (by decide) (hts _ tw_1_203) (fun _ h9 => h9) rfl dX9_append_18 ?_
      refine lv_aload_n hx hb dX9_append_21 rfl (lv_at hl 0 rfl) ?_
      refine va_get (D := D) (ci := 9) (v := .int L3f0x0) (C := RX9) (T := TX9) (N := 9) hx hb hts iT_X9 hown hK hP 0 rfl rfl 0 (by decide) (hts _ tw_1_195) (fun _ h9 => h9) rfl dX9_append_22 ?_
      refine lv_iload_n hx hb dX9_append_25 rfl (lv_at hl 1 rfl) ?_
      refine lv_iload_n hx hb dX9_append_26 rfl (lv_at hl 2 rfl) ?_
      refine lv_ishr hx hb dX9_append_27 ?_
      refine lv_topi (fun x_6 ex_6 => ?_)
      have zrp0 := z_rng p0
      refine lv_i2b (v := x_6.toInt8.toInt32) hx hb dX9_append_28 rfl ?_
      refine va_bast hx hb hK hP hD hS 1 1 rfl rfl (z_in (by omega) (by omega)) dX9_append_29 (fun H locs hP hD hS => ?_)
      obtain ⟨g_8, eg_8⟩ : ∃ z : Nat → Int32, upd L3a1 L3f0x0.toNatClampNeg (vp_nar .byte x_6.toInt8.toInt32) = z := ⟨_, rfl⟩
      have hP : va_P D vwCl [(ob, .inr (9, [.int L3f0x0, .int obv1, .int obv2, .ref obd, .ref ob_4, .int obv5, .int obv6, .int obv7, .int obv8])), (ob_4, .inl (k 1, 1000, .inl (upd L3a1 L3f0x0.toNatClampNeg (vp_nar .byte x_6.toInt8.toInt32))))] H := hP
      have hD : va_D A [(ob, .inr (9, [.int L3f0x0, .int obv1, .int obv2, .ref obd, .ref ob_4, .int obv5, .int obv6, .int obv7, .int obv8])), (ob_4, .inl (k 1, 1000, .inl (upd L3a1 L3f0x0.toNatClampNeg (vp_nar .byte x_6.toInt8.toInt32))))] := hD
      rw [eg_8] at hP hD
      refine lv_aload_n hx hb dX9_append_30 rfl (lv_at hl 0 rfl) ?_
      refine lv_dup hx hb dX9_append_31 rfl ?_
      refine va_get (D := D) (ci := 9) (v := .int L3f0x0) (C := RX9) (T := TX9) (N := 9) hx hb hts iT_X9 hown hK hP 0 rfl rfl 0 (by decide) (hts _ tw_1_195) (fun _ h9 => h9) rfl dX9_append_32 ?_
      refine lv_iconst (v := 1) hx hb dX9_append_35 (by decide) ?_
      refine lv_iadd hx hb dX9_append_36 ?_
      refine lv_topi (fun x_9 ex_9 => ?_)
      have zx_9 : x_9.toInt = L3f0x0.toInt + 1 := by rw [ex_9]; exact z_add rfl rfl (by omega) (by omega)
      refine va_put (D := D) (ci := 9) (v := .int x_9) (ty := tyX9 0) (C := RX9) (T := TX9) (N := 9) hx hb hts iT_X9 tyX9 tyX9_ok nmX9 hown hK hP hD hS 0 rfl rfl 0 (by decide) (hts _ tw_1_195) (fun _ h9 => h9) rfl (tyX9_ok 0 (by decide)) rfl rfl (Nat.le_of_ble_eq_true rfl) dX9_append_37 (fun H locs hP hD hS => ?_)
      have hP : va_P D vwCl [(ob, .inr (9, [.int x_9, .int obv1, .int obv2, .ref obd, .ref ob_4, .int obv5, .int obv6, .int obv7, .int obv8])), (ob_4, .inl (k 1, 1000, .inl g_8))] H := hP
      have hD : va_D A [(ob, .inr (9, [.int x_9, .int obv1, .int obv2, .ref obd, .ref ob_4, .int obv5, .int obv6, .int obv7, .int obv8])), (ob_4, .inl (k 1, 1000, .inl g_8))] := hD
      obtain ⟨x_10, ex_10⟩ : ∃ y : Int32, y = L3l2 + (-8) := ⟨_, rfl⟩
      have zx_10 : x_10.toInt = L3l2.toInt + (-8) := by rw [ex_10]; exact z_add rfl rfl (by omega) (by omega)
      refine lv_iinc (v := x_10) (lv' := [(2, .int x_10), (0, .ref ob), (1, .int p0)]) hx hb dX9_append_40 hl (k := 2) rfl (by rw [ex_10]; rfl) (by decide) rfl (fun ls hl => ?_)
      refine lv_goto (tgt := 3) hx hb dX9_append_43 (by decide) ?_
      exact ih_1 _ _ _ _ (by omega) ⟨x_10, x_9, g_8, rfl, (show (-8) ≤ x_10.toInt ∧ x_10.toInt ≤ 24 from by omega), (show 0 ≤ x_9.toInt ∧ x_9.toInt ≤ 1000 from by omega), hP.sub (ws' := [(ob, .inr (9, [.int x_9, .int obv1, .int obv2, .ref obd, .ref ob_4, .int obv5, .int obv6, .int obv7, .int obv8])), (ob_4, .inl (k 1, 1000, .inl g_8))]) [0, 1] rfl, hD.sub (ws' := [(ob, .inr (9, [.int x_9, .int obv1, .int obv2, .ref obd, .ref ob_4, .int obv5, .int obv6, .int obv7, .int obv8])), (ob_4, .inl (k 1, 1000, .inl g_8))]) [0, 1] (by decide +kernel) rfl, hS, lv_sub hl [1, 2, 0] rfl⟩
set_option maxHeartbeats 4000000 in
set_option maxRecDepth 100000 in
theorem c_X10_clear (l : Launch) (D : va_G) (k : Nat → ClassId) (ob : Nat) (obv0 : Int32) (obv1 : Int32) (obv2 : Int32) (ob_3 : Nat) (ob_4 : Nat) (ob_5 : Nat) (ob_6 : Nat) (obv7 : Int32) (obv8 : Int32) (ob_9 : Nat) (ob_10 : Nat) (obv11 : Int32) (ob_12 : Nat) (ob_13 : Nat) (ob_14 : Nat) (ob_15 : Nat) (obv16 : Int32) (ob_17 : Nat) (ob_18 : Nat) (obt : Nat) (obtv0 : Int32) (obt_1 : Nat) (obt_2 : Nat) (obt_3 : Nat) (sz : Nat) (h_obv0 : 0 ≤ obv0.toInt ∧ obv0.toInt ≤ 8) (h_obv2 : 0 ≤ obv2.toInt ∧ obv2.toInt ≤ 10) (h_obv8 : 0 ≤ obv8.toInt ∧ obv8.toInt ≤ 4) (h_obv11 : 0 ≤ obv11.toInt ∧ obv11.toInt ≤ 6) (h_obv16 : 0 ≤ obv16.toInt ∧ obv16.toInt ≤ 2) (h_obtv0 : 0 ≤ obtv0.toInt ∧ obtv0.toInt ≤ 40) : Met l yX10_clear (ww yX10_clear cX10_clear 1 none) ({ frames := 0, cells := 0, slots := 0, locals := 0 }) (Pre0 D k [(ob, .inr (10, [.int obv0, .int obv1, .int obv2, .ref ob_3, .ref ob_4, .ref ob_5, .ref ob_6, .int obv7, .int obv8, .ref ob_9, .ref ob_10, .int obv11, .ref ob_12, .ref ob_13, .ref ob_14, .ref ob_15, .int obv16, .ref ob_17, .ref ob_18, .ref obt])), (obt, .inr (0, [.int obtv0, .ref obt_1, .ref obt_2, .ref obt_3]))] sz [.ref ob]) (va_Qv (fun (u : Int32 × Int32 × Int32 × Int32 × Int32 × Int32 × Int32 × Int32) => match u with | (obv0z, obv1z, obv2z, obv7z, obv8z, obv11z, obv16z, obtv0z) => (0 ≤ obv0z.toInt ∧ obv0z.toInt ≤ 0) ∧ (0 ≤ obv1z.toInt ∧ obv1z.toInt ≤ 0) ∧ (0 ≤ obv2z.toInt ∧ obv2z.toInt ≤ 0) ∧ (0 ≤ obv7z.toInt ∧ obv7z.toInt ≤ 0) ∧ (0 ≤ obv8z.toInt ∧ obv8z.toInt ≤ 0) ∧ (0 ≤ obv11z.toInt ∧ obv11z.toInt ≤ 0) ∧ (0 ≤ obv16z.toInt ∧ obv16z.toInt ≤ 0) ∧ (0 ≤ obtv0z.toInt ∧ obtv0z.toInt ≤ 0)) (fun (u : Int32 × Int32 × Int32 × Int32 × Int32 × Int32 × Int32 × Int32) tZ => match u with | (obv0z, obv1z, obv2z, obv7z, obv8z, obv11z, obv16z, obtv0z) => Bw D k (va_A [(ob, .inr (10, [.int obv0, .int obv1, .int obv2, .ref ob_3, .ref ob_4, .ref ob_5, .ref ob_6, .int obv7, .int obv8, .ref ob_9, .ref ob_10, .int obv11, .ref ob_12, .ref ob_13, .ref ob_14, .ref ob_15, .int obv16, .ref ob_17, .ref ob_18, .ref obt])), (obt, .inr (0, [.int obtv0, .ref obt_1, .ref obt_2, .ref obt_3]))] sz) [(ob, .inr (10, [.int obv0z, .int obv1z, .int obv2z, .ref ob_3, .ref ob_4, .ref ob_5, .ref ob_6, .int obv7z, .int obv8z, .ref ob_9, .ref ob_10, .int obv11z, .ref ob_12, .ref ob_13, .ref ob_14, .ref ob_15, .int obv16z, .ref ob_17, .ref ob_18, .ref obt])), (obt, .inr (0, [.int obtv0z, .ref obt_1, .ref obt_2, .ref obt_3]))] tZ) (va_A [(ob, .inr (10, [.int obv0, .int obv1, .int obv2, .ref ob_3, .ref ob_4, .ref ob_5, .ref ob_6, .int obv7, .int obv8, .ref ob_9, .ref ob_10, .int obv11, .ref ob_12, .ref ob_13, .ref ob_14, .ref ob_15, .int obv16, .ref ob_17, .ref ob_18, .ref obt])), (obt, .inr (0, [.int obtv0, .ref obt_1, .ref obt_2, .ref obt_3]))] sz)) 0 0 (va_A [(ob, .inr (10, [.int obv0, .int obv1, .int obv2, .ref ob_3, .ref ob_4, .ref ob_5, .ref ob_6, .int obv7, .int obv8, .ref ob_9, .ref ob_10, .int obv11, .ref ob_12, .ref ob_13, .ref ob_14, .ref ob_15, .int obv16, .ref ob_17, .ref ob_18, .ref obt])), (obt, .inr (0, [.int obtv0, .ref obt_1, .ref obt_2, .ref obt_3]))] sz) := by
  refine Met.ofW (cc := cX10_clear) (maxL := 1) (ret := none) (by decide +kernel) rfl ?_
  intro p e s m args below meth c s₁ B hml hv
  obtain ⟨rfl, hsz, hP, hK, hD0, hN⟩ := hv
  have hx := B.exec
  have hb := B.bytes
  have hr := B.returns
  have hts : ∀ w ∈ TT, w.before _ s = true := fun w h => atoms_spec (ws := ww yX10_clear cX10_clear 1 none) B.pre w (List.mem_cons_of_mem _ h)
  have hown : s.vm.findClass RX10 = some m.cls := findClass_of_methodNamed B.named
  have hlocks := B.notSynchronized
  subst hsz
  have hD := hD0.self (sz := s.heap.size)
  generalize hAe : va_A [(ob, .inr (10, [.int obv0, .int obv1, .int obv2, .ref ob_3, .ref ob_4, .ref ob_5, .ref ob_6, .int obv7, .int obv8, .ref ob_9, .ref ob_10, .int obv11, .ref ob_12, .ref ob_13, .ref ob_14, .ref ob_15, .int obv16, .ref ob_17, .ref ob_18, .ref obt])), (obt, .inr (0, [.int obtv0, .ref obt_1, .ref obt_2, .ref obt_3]))] s.heap.size = A at hD ⊢
  have hA : ∀ q : Nat, s.heap.size ≤ q → A q := fun q h => by rw [← hAe]; exact Or.inr h
  have hS : va_S A s.heap s.heap [] := va_S.rf
  have hl := lv_entry ([.ref ob]) (n := 1) (Nat.le_of_ble_eq_true rfl)
  rw [lg_entry_eq]
  generalize (lg_sl ([.ref ob]) ++ List.replicate (1 - (lg_sl ([.ref ob])).length) Slot.unset).toArray = ls at hl ⊢
  have hl : lv_has ls 1 [(0, .ref ob)] := hl
  refine lv_aload_n hx hb dX10_clear_0 rfl (lv_at hl 0 rfl) ?_
  refine lv_iconst (v := 0) hx hb dX10_clear_1 (by decide) ?_
  refine va_put (D := D) (ci := 10) (v := .int 0) (ty := tyX10 0) (C := RX10) (T := TX10) (N := 20) hx hb hts iT_X10 tyX10 tyX10_ok nmX10 hown hK hP hD hS 0 rfl rfl 0 (by decide) (hts _ tw_1_67) (fun _ h9 => h9) rfl (tyX10_ok 0 (by decide)) rfl rfl (Nat.le_of_ble_eq_true rfl) dX10_clear_2 (fun H locs hP hD hS => ?_)
  have hP : va_P D vwCl [(ob, .inr (10, [.int 0, .int obv1, .int obv2, .ref ob_3, .ref ob_4, .ref ob_5, .ref ob_6, .int obv7, .int obv8, .ref ob_9, .ref ob_10, .int obv11, .ref ob_12, .ref ob_13, .ref ob_14, .ref ob_15, .int obv16, .ref ob_17, .ref ob_18, .ref obt])), (obt, .inr (0, [.int obtv0, .ref obt_1, .ref obt_2, .ref obt_3]))] H := hP
  have hD : va_D A [(ob, .inr (10, [.int 0, .int obv1, .int obv2, .ref ob_3, .ref ob_4, .ref ob_5, .ref ob_6, .int obv7, .int obv8, .ref ob_9, .ref ob_10, .int obv11, .ref ob_12, .ref ob_13, .ref ob_14, .ref ob_15, .int obv16, .ref ob_17, .ref ob_18, .ref obt])), (obt, .inr (0, [.int obtv0, .ref obt_1, .ref obt_2, .ref obt_3]))] := hD
  refine lv_aload_n hx hb dX10_clear_5 rfl (lv_at hl 0 rfl) ?_
  refine lv_iconst (v := 0) hx hb dX10_clear_6 (by decide) ?_
  refine va_put (D := D) (ci := 10) (v := .int 0) (ty := tyX10 1) (C := RX10) (T := TX10) (N := 20) hx hb hts iT_X10 tyX10 tyX10_ok nmX10 hown hK hP hD hS 0 rfl rfl 1 (by decide) (hts _ tw_1_74) (fun _ h9 => h9) rfl (tyX10_ok 1 (by decide)) rfl rfl (Nat.le_of_ble_eq_true rfl) dX10_clear_7 (fun H locs hP hD hS => ?_)
  have hP : va_P D vwCl [(ob, .inr (10, [.int 0, .int 0, .int obv2, .ref ob_3, .ref ob_4, .ref ob_5, .ref ob_6, .int obv7, .int obv8, .ref ob_9, .ref ob_10, .int obv11, .ref ob_12, .ref ob_13, .ref ob_14, .ref ob_15, .int obv16, .ref ob_17, .ref ob_18, .ref obt])), (obt, .inr (0, [.int obtv0, .ref obt_1, .ref obt_2, .ref obt_3]))] H := hP
  have hD : va_D A [(ob, .inr (10, [.int 0, .int 0, .int obv2, .ref ob_3, .ref ob_4, .ref ob_5, .ref ob_6, .int obv7, .int obv8, .ref ob_9, .ref ob_10, .int obv11, .ref ob_12, .ref ob_13, .ref ob_14, .ref ob_15, .int obv16, .ref ob_17, .ref ob_18, .ref obt])), (obt, .inr (0, [.int obtv0, .ref obt_1, .ref obt_2, .ref obt_3]))] := hD
  refine lv_aload_n hx hb dX10_clear_10 rfl (lv_at hl 0 rfl) ?_
  refine lv_iconst (v := 0) hx hb dX10_clear_11 (by decide) ?_
  refine va_put (D := D) (ci := 10) (v := .int 0) (ty := tyX10 2) (C := RX10) (T := TX10) (N := 20) hx hb hts iT_X10 tyX10 tyX10_ok nmX10 hown hK hP hD hS 0 rfl rfl 2 (by decide) (hts _ tw_1_77) (fun _ h9 => h9) rfl (tyX10_ok 2 (by decide)) rfl rfl (Nat.le_of_ble_eq_true rfl) dX10_clear_12 (fun H locs hP hD hS => ?_)
  have hP : va_P D vwCl [(ob, .inr (10, [.int 0, .int 0, .int 0, .ref ob_3, .ref ob_4, .ref ob_5, .ref ob_6, .int obv7, .int obv8, .ref ob_9, .ref ob_10, .int obv11, .ref ob_12, .ref ob_13, .ref ob_14, .ref ob_15, .int obv16, .ref ob_17, .ref ob_18, .ref obt])), (obt, .inr (0, [.int obtv0, .ref obt_1, .ref obt_2, .ref obt_3]))] H := hP
  have hD : va_D A [(ob, .inr (10, [.int 0, .int 0, .int 0, .ref ob_3, .ref ob_4, .ref ob_5, .ref ob_6, .int obv7, .int obv8, .ref ob_9, .ref ob_10, .int obv11, .ref ob_12, .ref ob_13, .ref ob_14, .ref ob_15, .int obv16, .ref ob_17, .ref ob_18, .ref obt])), (obt, .inr (0, [.int obtv0, .ref obt_1, .ref obt_2, .ref obt_3]))] := hD
  refine lv_aload_n hx hb dX10_clear_15 rfl (lv_at hl 0 rfl) ?_
  refine lv_iconst (v := 0) hx hb dX10_clear_16 (by decide) ?_
  refine va_put (D := D) (ci := 10) (v := .int 0) (ty := tyX10 7) (C := RX10) (T := TX10) (N := 20) hx hb hts iT_X10 tyX10 tyX10_ok nmX10 hown hK hP hD hS 0 rfl rfl 7 (by decide) (hts _ tw_1_101) (fun _ h9 => h9) rfl (tyX10_ok 7 (by decide)) rfl rfl (Nat.le_of_ble_eq_true rfl) dX10_clear_17 (fun H locs hP hD hS => ?_)
  have hP : va_P D vwCl [(ob, .inr (10, [.int 0, .int 0, .int 0, .ref ob_3, .ref ob_4, .ref ob_5, .ref ob_6, .int 0, .int obv8, .ref ob_9, .ref ob_10, .int obv11, .ref ob_12, .ref ob_13, .ref ob_14, .ref ob_15, .int obv16, .ref ob_17, .ref ob_18, .ref obt])), (obt, .inr (0, [.int obtv0, .ref obt_1, .ref obt_2, .ref obt_3]))] H := hP
  have hD : va_D A [(ob, .inr (10, [.int 0, .int 0, .int 0, .ref ob_3, .ref ob_4, .ref ob_5, .ref ob_6, .int 0, .int obv8, .ref ob_9, .ref ob_10, .int obv11, .ref ob_12, .ref ob_13, .ref ob_14, .ref ob_15, .int obv16, .ref ob_17, .ref ob_18, .ref obt])), (obt, .inr (0, [.int obtv0, .ref obt_1, .ref obt_2, .ref obt_3]))] := hD
  refine lv_aload_n hx hb dX10_clear_20 rfl (lv_at hl 0 rfl) ?_
  refine lv_iconst (v := 0) hx hb dX10_clear_21 (by decide) ?_
  refine va_put (D := D) (ci := 10) (v := .int 0) (ty := tyX10 8) (C := RX10) (T := TX10) (N := 20) hx hb hts iT_X10 tyX10 tyX10_ok nmX10 hown hK hP hD hS 0 rfl rfl 8 (by decide) (hts _ tw_1_103) (fun _ h9 => h9) rfl (tyX10_ok 8 (by decide)) rfl rfl (Nat.le_of_ble_eq_true rfl) dX10_clear_22 (fun H locs hP hD hS => ?_)
  have hP : va_P D vwCl [(ob, .inr (10, [.int 0, .int 0, .int 0, .ref ob_3, .ref ob_4, .ref ob_5, .ref ob_6, .int 0, .int 0, .ref ob_9, .ref ob_10, .int obv11, .ref ob_12, .ref ob_13, .ref ob_14, .ref ob_15, .int obv16, .ref ob_17, .ref ob_18, .ref obt])), (obt, .inr (0, [.int obtv0, .ref obt_1, .ref obt_2, .ref obt_3]))] H := hP
  have hD : va_D A [(ob, .inr (10, [.int 0, .int 0, .int 0, .ref ob_3, .ref ob_4, .ref ob_5, .ref ob_6, .int 0, .int 0, .ref ob_9, .ref ob_10, .int obv11, .ref ob_12, .ref ob_13, .ref ob_14, .ref ob_15, .int obv16, .ref ob_17, .ref ob_18, .ref obt])), (obt, .inr (0, [.int obtv0, .ref obt_1, .ref obt_2, .ref obt_3]))] := hD
  refine lv_aload_n hx hb dX10_clear_25 rfl (lv_at hl 0 rfl) ?_
  refine lv_iconst (v := 0) hx hb dX10_clear_26 (by decide) ?_
  refine va_put (D := D) (ci := 10) (v := .int 0) (ty := tyX10 11) (C := RX10) (T := TX10) (N := 20) hx hb hts iT_X10 tyX10 tyX10_ok nmX10 hown hK hP hD hS 0 rfl rfl 11 (by decide) (hts _ tw_1_119) (fun _ h9 => h9) rfl (tyX10_ok 11 (by decide)) rfl rfl (Nat.le_of_ble_eq_true rfl) dX10_clear_27 (fun H locs hP hD hS => ?_)
  have hP : va_P D vwCl [(ob, .inr (10, [.int 0, .int 0, .int 0, .ref ob_3, .ref ob_4, .ref ob_5, .ref ob_6, .int 0, .int 0, .ref ob_9, .ref ob_10, .int 0, .ref ob_12, .ref ob_13, .ref ob_14, .ref ob_15, .int obv16, .ref ob_17, .ref ob_18, .ref obt])), (obt, .inr (0, [.int obtv0, .ref obt_1, .ref obt_2, .ref obt_3]))] H := hP
  have hD : va_D A [(ob, .inr (10, [.int 0, .int 0, .int 0, .ref ob_3, .ref ob_4, .ref ob_5, .ref ob_6, .int 0, .int 0, .ref ob_9, .ref ob_10, .int 0, .ref ob_12, .ref ob_13, .ref ob_14, .ref ob_15, .int obv16, .ref ob_17, .ref ob_18, .ref obt])), (obt, .inr (0, [.int obtv0, .ref obt_1, .ref obt_2, .ref obt_3]))] := hD
  refine lv_aload_n hx hb dX10_clear_30 rfl (lv_at hl 0 rfl) ?_
  refine lv_iconst (v := 0) hx hb dX10_clear_31 (by decide) ?_
  refine va_put (D := D) (ci := 10) (v := .int 0) (ty := tyX10 16) (C := RX10) (T := TX10) (N := 20) hx hb hts iT_X10 tyX10 tyX10_ok nmX10 hown hK hP hD hS 0 rfl rfl 16 (by decide) (hts _ tw_1_142) (fun _ h9 => h9) rfl (tyX10_ok 16 (by decide)) rfl rfl (Nat.le_of_ble_eq_true rfl) dX10_clear_32 (fun H locs hP hD hS => ?_)
  have hP : va_P D vwCl [(ob, .inr (10, [.int 0, .int 0, .int 0, .ref ob_3, .ref ob_4, .ref ob_5, .ref ob_6, .int 0, .int 0, .ref ob_9, .ref ob_10, .int 0, .ref ob_12, .ref ob_13, .ref ob_14, .ref ob_15, .int 0, .ref ob_17, .ref ob_18, .ref obt])), (obt, .inr (0, [.int obtv0, .ref obt_1, .ref obt_2, .ref obt_3]))] H := hP
  have hD : va_D A [(ob, .inr (10, [.int 0, .int 0, .int 0, .ref ob_3, .ref ob_4, .ref ob_5, .ref ob_6, .int 0, .int 0, .ref ob_9, .ref ob_10, .int 0, .ref ob_12, .ref ob_13, .ref ob_14, .ref ob_15, .int 0, .ref ob_17, .ref ob_18, .ref obt])), (obt, .inr (0, [.int obtv0, .ref obt_1, .ref obt_2, .ref obt_3]))] := hD
  refine lv_aload_n hx hb dX10_clear_35 rfl (lv_at hl 0 rfl) ?_
  refine va_get (D := D) (ci := 10) (v := .ref obt) (C := RX10) (T := TX10) (N := 20) hx hb hts iT_X10 hown hK hP 0 rfl rfl 19 (by decide) (hts _ tw_1_152) (fun _ h9 => h9) rfl dX10_clear_36 ?_
  refine lv_iconst (v := 0) hx hb dX10_clear_39 (by decide) ?_
  refine va_put (D := D) (ci := 0) (v := .int 0) (ty := tyX0 0) (C := RX0) (T := TX0) (N := 4) hx hb hts iT_X0 tyX0 tyX0_ok nmX0 hown hK hP hD hS 1 rfl rfl 0 (by decide) (hts _ tw_1_49) (fun _ h9 => h9) rfl (tyX0_ok 0 (by decide)) rfl rfl (Nat.le_of_ble_eq_true rfl) dX10_clear_40 (fun H locs hP hD hS => ?_)
  have hP : va_P D vwCl [(ob, .inr (10, [.int 0, .int 0, .int 0, .ref ob_3, .ref ob_4, .ref ob_5, .ref ob_6, .int 0, .int 0, .ref ob_9, .ref ob_10, .int 0, .ref ob_12, .ref ob_13, .ref ob_14, .ref ob_15, .int 0, .ref ob_17, .ref ob_18, .ref obt])), (obt, .inr (0, [.int 0, .ref obt_1, .ref obt_2, .ref obt_3]))] H := hP
  have hD : va_D A [(ob, .inr (10, [.int 0, .int 0, .int 0, .ref ob_3, .ref ob_4, .ref ob_5, .ref ob_6, .int 0, .int 0, .ref ob_9, .ref ob_10, .int 0, .ref ob_12, .ref ob_13, .ref ob_14, .ref ob_15, .int 0, .ref ob_17, .ref ob_18, .ref obt])), (obt, .inr (0, [.int 0, .ref obt_1, .ref obt_2, .ref obt_3]))] := hD
  obtain ⟨hP9, hD9⟩ := sub2 hP hD (ws' := [(ob, .inr (10, [.int 0, .int 0, .int 0, .ref ob_3, .ref ob_4, .ref ob_5, .ref ob_6, .int 0, .int 0, .ref ob_9, .ref ob_10, .int 0, .ref ob_12, .ref ob_13, .ref ob_14, .ref ob_15, .int 0, .ref ob_17, .ref ob_18, .ref obt])), (obt, .inr (0, [.int 0, .ref obt_1, .ref obt_2, .ref obt_3]))]) [0, 1] (by decide +kernel) rfl
  exact W.vret hx hb hr (fun tZ ht hW => ⟨⟨(0, 0, 0, 0, 0, 0, 0, 0), rfl, ⟨(show 0 ≤ 0 ∧ 0 ≤ 0 from by omega), (show 0 ≤ 0 ∧ 0 ≤ 0 from by omega), (show 0 ≤ 0 ∧ 0 ≤ 0 from by omega), (show 0 ≤ 0 ∧ 0 ≤ 0 from by omega), (show 0 ≤ 0 ∧ 0 ≤ 0 from by omega), (show 0 ≤ 0 ∧ 0 ≤ 0 from by omega), (show 0 ≤ 0 ∧ 0 ≤ 0 from by omega), (show 0 ≤ 0 ∧ 0 ≤ 0 from by omega)⟩, by rw [ht]; exact hP9, va_K.moved hW.alike hK, hD9⟩, hS.F ht⟩) hS.2.2 dX10_clear_43
set_option maxHeartbeats 4000000 in
set_option maxRecDepth 100000 in
theorem c_X9_byteAt (l : Launch) (D : va_G) (k : Nat → ClassId) (ob : Nat) (p0 : Int32) (obv0 : Int32) (obv1 : Int32) (obv2 : Int32) (obd : Nat) (ob_4 : Nat) (obv5 : Int32) (obv6 : Int32) (obv7 : Int32) (obv8 : Int32) (obg4 : Nat → Int32) (sz : Nat) (h_obv0 : 0 ≤ obv0.toInt ∧ obv0.toInt ≤ 1000) : Met l yX9_byteAt (ww yX9_byteAt cX9_byteAt 2 (some .int)) ({ frames := 0, cells := 0, slots := 0, locals := 0 }) (Pre0 D k [(ob, .inr (9, [.int obv0, .int obv1, .int obv2, .ref obd, .ref ob_4, .int obv5, .int obv6, .int obv7, .int obv8])), (ob_4, .inl (k 1, 1000, .inl obg4))] sz [.ref ob, .int p0]) (va_Qi (fun (r : Int32) (_ : Unit) => True) (fun (_ : Unit) tZ => Bw D k (va_A [(ob, .inr (9, [.int obv0, .int obv1, .int obv2, .ref obd, .ref ob_4, .int obv5, .int obv6, .int obv7, .int obv8])), (ob_4, .inl (k 1, 1000, .inl obg4))] sz) [(ob, .inr (9, [.int obv0, .int obv1, .int obv2, .ref obd, .ref ob_4, .int obv5, .int obv6, .int obv7, .int obv8])), (ob_4, .inl (k 1, 1000, .inl obg4))] tZ) (va_A [(ob, .inr (9, [.int obv0, .int obv1, .int obv2, .ref obd, .ref ob_4, .int obv5, .int obv6, .int obv7, .int obv8])), (ob_4, .inl (k 1, 1000, .inl obg4))] sz)) 0 0 (va_A [(ob, .inr (9, [.int obv0, .int obv1, .int obv2, .ref obd, .ref ob_4, .int obv5, .int obv6, .int obv7, .int obv8])), (ob_4, .inl (k 1, 1000, .inl obg4))] sz) := by
  refine Met.ofW (cc := cX9_byteAt) (maxL := 2) (ret := (some .int)) (by decide +kernel) rfl ?_
  intro p e s m args below meth c s₁ B hml hv
  obtain ⟨rfl, hsz, hP, hK, hD0, hN⟩ := hv
  have hx := B.exec
  have hb := B.bytes
  have hr := B.returns
  have hts : ∀ w ∈ TT, w.before _ s = true := fun w h => atoms_spec (ws := ww yX9_byteAt cX9_byteAt 2 (some .int)) B.pre w (List.mem_cons_of_mem _ h)
  have hown : s.vm.findClass RX9 = some m.cls := findClass_of_methodNamed B.named
  have hlocks := B.notSynchronized
  subst hsz
  have hD := hD0.self (sz := s.heap.size)
  generalize hAe : va_A [(ob, .inr (9, [.int obv0, .int obv1, .int obv2, .ref obd, .ref ob_4, .int obv5, .int obv6, .int obv7, .int obv8])), (ob_4, .inl (k 1, 1000, .inl obg4))] s.heap.size = A at hD ⊢
  have hA : ∀ q : Nat, s.heap.size ≤ q → A q := fun q h => by rw [← hAe]; exact Or.inr h
  have hS : va_S A s.heap s.heap [] := va_S.rf
  have hl := lv_entry ([.ref ob, .int p0]) (n := 2) (Nat.le_of_ble_eq_true rfl)
  rw [lg_entry_eq]
  generalize (lg_sl ([.ref ob, .int p0]) ++ List.replicate (2 - (lg_sl ([.ref ob, .int p0])).length) Slot.unset).toArray = ls at hl ⊢
  have hl : lv_has ls 2 [(0, .ref ob), (1, .int p0)] := hl
  refine lv_iload_n hx hb dX9_byteAt_0 rfl (lv_at hl 1 rfl) ?_
  refine lv_if_lt (tgt := 28) hx hb dX9_byteAt_1 (by decide) (fun h_1 => ?_) (fun h_1 => ?_)
  · skip
    have zh_1 : p0.toInt < 0 := z_lt h_1
    refine lv_iconst (v := 0) hx hb dX9_byteAt_28 (by decide) ?_
    obtain ⟨hP9, hD9⟩ := sub2 hP hD (ws' := [(ob, .inr (9, [.int obv0, .int obv1, .int obv2, .ref obd, .ref ob_4, .int obv5, .int obv6, .int obv7, .int obv8])), (ob_4, .inl (k 1, 1000, .inl obg4))]) [0, 1] (by decide +kernel) rfl
    exact W.iret (v := 0) hx hb hr (fun tZ ht hW => ⟨⟨0, (), rfl, trivial, by rw [ht]; exact hP9, va_K.moved hW.alike hK, hD9⟩, hS.F ht⟩) hS.2.2 dX9_byteAt_29
  · skip
    have zh_1 : 0 ≤ p0.toInt := z_nlt h_1
    refine lv_iload_n hx hb dX9_byteAt_4 rfl (lv_at hl 1 rfl) ?_
    refine lv_aload_n hx hb dX9_byteAt_5 rfl (lv_at hl 0 rfl) ?_
    refine va_get (D := D) (ci := 9) (v := .int obv0) (C := RX9) (T := TX9) (N := 9) hx hb hts iT_X9 hown hK hP 0 rfl rfl 0 (by decide) (hts _ tw_1_195) (fun _ h9 => h9) rfl dX9_byteAt_6 ?_
    refine lv_icmp_ge (tgt := 28) hx hb dX9_byteAt_9 (by decide) (fun h_2 => ?_) (fun h_2 => ?_)
    · skip
      have zh_2 : obv0.toInt ≤ p0.toInt := z_le h_2
      refine lv_iconst (v := 0) hx hb dX9_byteAt_28 (by decide) ?_
      obtain ⟨hP9, hD9⟩ := sub2 hP hD (ws' := [(ob, .inr (9, [.int obv0, .int obv1, .int obv2, .ref obd, .ref ob_4, .int obv5, .int obv6, .int obv7, .int obv8])), (ob_4, .inl (k 1, 1000, .inl obg4))]) [0, 1] (by decide +kernel) rfl
      exact W.iret (v := 0) hx hb hr (fun tZ ht hW => ⟨⟨0, (), rfl, trivial, by rw [ht]; exact hP9, va_K.moved hW.alike hK, hD9⟩, hS.F ht⟩) hS.2.2 dX9_byteAt_29
    · skip
      have zh_2 : p0.toInt < obv0.toInt := z_nle h_2
      refine lv_iload_n hx hb dX9_byteAt_12 rfl (lv_at hl 1 rfl) ?_
      refine lv_sipush (v := 1000) hx hb dX9_byteAt_13 (by decide) ?_
      refine lv_icmp_ge (tgt := 28) hx hb dX9_byteAt_16 (by decide) (fun h_3 => ?_) (fun h_3 => ?_)
      · skip
        have zh_3 : 1000 ≤ p0.toInt := z_le h_3
        exact False.elim (by omega)
      · skip
        have zh_3 : p0.toInt < 1000 := z_nle h_3
        refine lv_aload_n hx hb dX9_byteAt_19 rfl (lv_at hl 0 rfl) ?_
        refine va_get (D := D) (ci := 9) (v := .ref ob_4) (C := RX9) (T := TX9) (N := 9) hx hb hts iT_X9 hown hK hP 0 rfl rfl 4 (by decide) (hts _ tw_1_203) (fun _ h9 => h9) rfl dX9_byteAt_20 ?_
        refine lv_iload_n hx hb dX9_byteAt_23 rfl (lv_at hl 1 rfl) ?_
        refine va_bald hx hb hK hP 1 1 rfl rfl (z_in (by omega) (by omega)) dX9_byteAt_24 ?_
        refine lv_topi (fun x_4 ex_4 => ?_)
        refine lv_goto (tgt := 29) hx hb dX9_byteAt_25 (by decide) ?_
        obtain ⟨hP9, hD9⟩ := sub2 hP hD (ws' := [(ob, .inr (9, [.int obv0, .int obv1, .int obv2, .ref obd, .ref ob_4, .int obv5, .int obv6, .int obv7, .int obv8])), (ob_4, .inl (k 1, 1000, .inl obg4))]) [0, 1] (by decide +kernel) rfl
        exact W.iret (v := x_4) hx hb hr (fun tZ ht hW => ⟨⟨x_4, (), rfl, trivial, by rw [ht]; exact hP9, va_K.moved hW.alike hK, hD9⟩, hS.F ht⟩) hS.2.2 dX9_byteAt_29
set_option maxHeartbeats 4000000 in
set_option maxRecDepth 100000 in
theorem c_X9_isBlank (l : Launch) (D : va_G) (k : Nat → ClassId) (p0 : Int32) (sz : Nat) : Met l yX9_isBlank (ww yX9_isBlank cX9_isBlank 1 (some .boolean)) ({ frames := 0, cells := 0, slots := 0, locals := 0 }) (Pre0 D k [] sz [.int p0]) (va_Qi (fun (r : Int32) (_ : Unit) => (0 ≤ r.toInt ∧ r.toInt ≤ 1)) (fun (_ : Unit) tZ => Bw D k (va_A [] sz) [] tZ) (va_A [] sz)) 0 0 (va_A [] sz) := by
  refine Met.ofW (cc := cX9_isBlank) (maxL := 1) (ret := (some .boolean)) (by decide +kernel) rfl ?_
  intro p e s m args below meth c s₁ B hml hv
  obtain ⟨rfl, hsz, hP, hK, hD0, hN⟩ := hv
  have hx := B.exec
  have hb := B.bytes
  have hr := B.returns
  have hts : ∀ w ∈ TT, w.before _ s = true := fun w h => atoms_spec (ws := ww yX9_isBlank cX9_isBlank 1 (some .boolean)) B.pre w (List.mem_cons_of_mem _ h)
  have hown : s.vm.findClass RX9 = some m.cls := findClass_of_methodNamed B.named
  have hlocks := B.notSynchronized
  subst hsz
  have hD := hD0.self (sz := s.heap.size)
  generalize hAe : va_A [] s.heap.size = A at hD ⊢
  have hA : ∀ q : Nat, s.heap.size ≤ q → A q := fun q h => by rw [← hAe]; exact Or.inr h
  have hS : va_S A s.heap s.heap [] := va_S.rf
  have hl := lv_entry ([.int p0]) (n := 1) (Nat.le_of_ble_eq_true rfl)
  rw [lg_entry_eq]
  generalize (lg_sl ([.int p0]) ++ List.replicate (1 - (lg_sl ([.int p0])).length) Slot.unset).toArray = ls at hl ⊢
  have hl : lv_has ls 1 [(0, .int p0)] := hl
  refine lv_iload_n hx hb dX9_isBlank_0 rfl (lv_at hl 0 rfl) ?_
  refine lv_bipush (v := 32) hx hb dX9_isBlank_1 (by decide) ?_
  refine lv_icmp_eq (tgt := 12) hx hb dX9_isBlank_3 (by decide) (fun h_1 => ?_) (fun h_1 => ?_)
  · skip
    have zh_1 : p0.toInt = 32 := z_eq h_1
    refine lv_iconst (v := 1) hx hb dX9_isBlank_12 (by decide) ?_
    refine lv_goto (tgt := 17) hx hb dX9_isBlank_13 (by decide) ?_
    obtain ⟨hP9, hD9⟩ := sub2 hP hD (ws' := []) [] (by decide +kernel) rfl
    exact W.zret (v := 1) hx hb hr (by decide) (fun tZ ht hW => ⟨⟨1, (), rfl, (show 0 ≤ 1 ∧ 1 ≤ 1 from by omega), by rw [ht]; exact hP9, va_K.moved hW.alike hK, hD9⟩, hS.F ht⟩) hS.2.2 dX9_isBlank_17
  · skip
    have zh_1 : ¬ p0.toInt = 32 := z_ne h_1
    refine lv_iload_n hx hb dX9_isBlank_6 rfl (lv_at hl 0 rfl) ?_
    refine lv_bipush (v := 10) hx hb dX9_isBlank_7 (by decide) ?_
    refine lv_icmp_ne (tgt := 16) hx hb dX9_isBlank_9 (by decide) (fun h_2 => ?_) (fun h_2 => ?_)
    · skip
      have zh_2 : ¬ p0.toInt = 10 := z_ne h_2
      refine lv_iconst (v := 0) hx hb dX9_isBlank_16 (by decide) ?_
      obtain ⟨hP9, hD9⟩ := sub2 hP hD (ws' := []) [] (by decide +kernel) rfl
      exact W.zret (v := 0) hx hb hr (by decide) (fun tZ ht hW => ⟨⟨0, (), rfl, (show 0 ≤ 0 ∧ 0 ≤ 1 from by omega), by rw [ht]; exact hP9, va_K.moved hW.alike hK, hD9⟩, hS.F ht⟩) hS.2.2 dX9_isBlank_17
    · skip
      have zh_2 : p0.toInt = 10 := z_eq h_2
      refine lv_iconst (v := 1) hx hb dX9_isBlank_12 (by decide) ?_
      refine lv_goto (tgt := 17) hx hb dX9_isBlank_13 (by decide) ?_
      obtain ⟨hP9, hD9⟩ := sub2 hP hD (ws' := []) [] (by decide +kernel) rfl
      exact W.zret (v := 1) hx hb hr (by decide) (fun tZ ht hW => ⟨⟨1, (), rfl, (show 0 ≤ 1 ∧ 1 ≤ 1 from by omega), by rw [ht]; exact hP9, va_K.moved hW.alike hK, hD9⟩, hS.F ht⟩) hS.2.2 dX9_isBlank_17
set_option maxHeartbeats 4000000 in
set_option maxRecDepth 100000 in
theorem c_X9_isLetter (l : Launch) (D : va_G) (k : Nat → ClassId) (p0 : Int32) (sz : Nat) : Met l yX9_isLetter (ww yX9_isLetter cX9_isLetter 1 (some .boolean)) ({ frames := 0, cells := 0, slots := 0, locals := 0 }) (Pre0 D k [] sz [.int p0]) (va_Qi (fun (r : Int32) (_ : Unit) => (0 ≤ r.toInt ∧ r.toInt ≤ 1)) (fun (_ : Unit) tZ => Bw D k (va_A [] sz) [] tZ) (va_A [] sz)) 0 0 (va_A [] sz) := by
  refine Met.ofW (cc := cX9_isLetter) (maxL := 1) (ret := (some .boolean)) (by decide +kernel) rfl ?_
  intro p e s m args below meth c s₁ B hml hv
  obtain ⟨rfl, hsz, hP, hK, hD0, hN⟩ := hv
  have hx := B.exec
  have hb := B.bytes
  have hr := B.returns
  have hts : ∀ w ∈ TT, w.before _ s = true := fun w h => atoms_spec (ws := ww yX9_isLetter cX9_isLetter 1 (some .boolean)) B.pre w (List.mem_cons_of_mem _ h)
  have hown : s.vm.findClass RX9 = some m.cls := findClass_of_methodNamed B.named
  have hlocks := B.notSynchronized
  subst hsz
  have hD := hD0.self (sz := s.heap.size)
  generalize hAe : va_A [] s.heap.size = A at hD ⊢
  have hA : ∀ q : Nat, s.heap.size ≤ q → A q := fun q h => by rw [← hAe]; exact Or.inr h
  have hS : va_S A s.heap s.heap [] := va_S.rf
  have hl := lv_entry ([.int p0]) (n := 1) (Nat.le_of_ble_eq_true rfl)
  rw [lg_entry_eq]
  generalize (lg_sl ([.int p0]) ++ List.replicate (1 - (lg_sl ([.int p0])).length) Slot.unset).toArray = ls at hl ⊢
  have hl : lv_has ls 1 [(0, .int p0)] := hl
  refine lv_iload_n hx hb dX9_isLetter_0 rfl (lv_at hl 0 rfl) ?_
  refine lv_bipush (v := 97) hx hb dX9_isLetter_1 (by decide) ?_
  refine lv_icmp_lt (tgt := 16) hx hb dX9_isLetter_3 (by decide) (fun h_1 => ?_) (fun h_1 => ?_)
  · skip
    have zh_1 : p0.toInt < 97 := z_lt h_1
    refine lv_iconst (v := 0) hx hb dX9_isLetter_16 (by decide) ?_
    obtain ⟨hP9, hD9⟩ := sub2 hP hD (ws' := []) [] (by decide +kernel) rfl
    exact W.zret (v := 0) hx hb hr (by decide) (fun tZ ht hW => ⟨⟨0, (), rfl, (show 0 ≤ 0 ∧ 0 ≤ 1 from by omega), by rw [ht]; exact hP9, va_K.moved hW.alike hK, hD9⟩, hS.F ht⟩) hS.2.2 dX9_isLetter_17
  · skip
    have zh_1 : 97 ≤ p0.toInt := z_nlt h_1
    refine lv_iload_n hx hb dX9_isLetter_6 rfl (lv_at hl 0 rfl) ?_
    refine lv_bipush (v := 122) hx hb dX9_isLetter_7 (by decide) ?_
    refine lv_icmp_gt (tgt := 16) hx hb dX9_isLetter_9 (by decide) (fun h_2 => ?_) (fun h_2 => ?_)
    · skip
      have zh_2 : 122 < p0.toInt := z_lt h_2
      refine lv_iconst (v := 0) hx hb dX9_isLetter_16 (by decide) ?_
      obtain ⟨hP9, hD9⟩ := sub2 hP hD (ws' := []) [] (by decide +kernel) rfl
      exact W.zret (v := 0) hx hb hr (by decide) (fun tZ ht hW => ⟨⟨0, (), rfl, (show 0 ≤ 0 ∧ 0 ≤ 1 from by omega), by rw [ht]; exact hP9, va_K.moved hW.alike hK, hD9⟩, hS.F ht⟩) hS.2.2 dX9_isLetter_17
    · skip
      have zh_2 : p0.toInt ≤ 122 := z_nlt h_2
      refine lv_iconst (v := 1) hx hb dX9_isLetter_12 (by decide) ?_
      refine lv_goto (tgt := 17) hx hb dX9_isLetter_13 (by decide) ?_
      obtain ⟨hP9, hD9⟩ := sub2 hP hD (ws' := []) [] (by decide +kernel) rfl
      exact W.zret (v := 1) hx hb hr (by decide) (fun tZ ht hW => ⟨⟨1, (), rfl, (show 0 ≤ 1 ∧ 1 ≤ 1 from by omega), by rw [ht]; exact hP9, va_K.moved hW.alike hK, hD9⟩, hS.F ht⟩) hS.2.2 dX9_isLetter_17
set_option maxHeartbeats 4000000 in
set_option maxRecDepth 100000 in
theorem c_X9_isDigit (l : Launch) (D : va_G) (k : Nat → ClassId) (p0 : Int32) (sz : Nat) : Met l yX9_isDigit (ww yX9_isDigit cX9_isDigit 1 (some .boolean)) ({ frames := 0, cells := 0, slots := 0, locals := 0 }) (Pre0 D k [] sz [.int p0]) (va_Qi (fun (r : Int32) (_ : Unit) => (0 ≤ r.toInt ∧ r.toInt ≤ 1)) (fun (_ : Unit) tZ => Bw D k (va_A [] sz) [] tZ) (va_A [] sz)) 0 0 (va_A [] sz) := by
  refine Met.ofW (cc := cX9_isDigit) (maxL := 1) (ret := (some .boolean)) (by decide +kernel) rfl ?_
  intro p e s m args below meth c s₁ B hml hv
  obtain ⟨rfl, hsz, hP, hK, hD0, hN⟩ := hv
  have hx := B.exec
  have hb := B.bytes
  have hr := B.returns
  have hts : ∀ w ∈ TT, w.before _ s = true := fun w h => atoms_spec (ws := ww yX9_isDigit cX9_isDigit 1 (some .boolean)) B.pre w (List.mem_cons_of_mem _ h)
  have hown : s.vm.findClass RX9 = some m.cls := findClass_of_methodNamed B.named
  have hlocks := B.notSynchronized
  subst hsz
  have hD := hD0.self (sz := s.heap.size)
  generalize hAe : va_A [] s.heap.size = A at hD ⊢
  have hA : ∀ q : Nat, s.heap.size ≤ q → A q := fun q h => by rw [← hAe]; exact Or.inr h
  have hS : va_S A s.heap s.heap [] := va_S.rf
  have hl := lv_entry ([.int p0]) (n := 1) (Nat.le_of_ble_eq_true rfl)
  rw [lg_entry_eq]
  generalize (lg_sl ([.int p0]) ++ List.replicate (1 - (lg_sl ([.int p0])).length) Slot.unset).toArray = ls at hl ⊢
  have hl : lv_has ls 1 [(0, .int p0)] := hl
  refine lv_iload_n hx hb dX9_isDigit_0 rfl (lv_at hl 0 rfl) ?_
  refine lv_bipush (v := 48) hx hb dX9_isDigit_1 (by decide) ?_
  refine lv_icmp_lt (tgt := 16) hx hb dX9_isDigit_3 (by decide) (fun h_1 => ?_) (fun h_1 => ?_)
  · skip
    have zh_1 : p0.toInt < 48 := z_lt h_1
    refine lv_iconst (v := 0) hx hb dX9_isDigit_16 (by decide) ?_
    obtain ⟨hP9, hD9⟩ := sub2 hP hD (ws' := []) [] (by decide +kernel) rfl
    exact W.zret (v := 0) hx hb hr (by decide) (fun tZ ht hW => ⟨⟨0, (), rfl, (show 0 ≤ 0 ∧ 0 ≤ 1 from by omega), by rw [ht]; exact hP9, va_K.moved hW.alike hK, hD9⟩, hS.F ht⟩) hS.2.2 dX9_isDigit_17
  · skip
    have zh_1 : 48 ≤ p0.toInt := z_nlt h_1
    refine lv_iload_n hx hb dX9_isDigit_6 rfl (lv_at hl 0 rfl) ?_
    refine lv_bipush (v := 57) hx hb dX9_isDigit_7 (by decide) ?_
    refine lv_icmp_gt (tgt := 16) hx hb dX9_isDigit_9 (by decide) (fun h_2 => ?_) (fun h_2 => ?_)
    · skip
      have zh_2 : 57 < p0.toInt := z_lt h_2
      refine lv_iconst (v := 0) hx hb dX9_isDigit_16 (by decide) ?_
      obtain ⟨hP9, hD9⟩ := sub2 hP hD (ws' := []) [] (by decide +kernel) rfl
      exact W.zret (v := 0) hx hb hr (by decide) (fun tZ ht hW => ⟨⟨0, (), rfl, (show 0 ≤ 0 ∧ 0 ≤ 1 from by omega), by rw [ht]; exact hP9, va_K.moved hW.alike hK, hD9⟩, hS.F ht⟩) hS.2.2 dX9_isDigit_17
    · skip
      have zh_2 : p0.toInt ≤ 57 := z_nlt h_2
      refine lv_iconst (v := 1) hx hb dX9_isDigit_12 (by decide) ?_
      refine lv_goto (tgt := 17) hx hb dX9_isDigit_13 (by decide) ?_
      obtain ⟨hP9, hD9⟩ := sub2 hP hD (ws' := []) [] (by decide +kernel) rfl
      exact W.zret (v := 1) hx hb hr (by decide) (fun tZ ht hW => ⟨⟨1, (), rfl, (show 0 ≤ 1 ∧ 1 ≤ 1 from by omega), by rw [ht]; exact hP9, va_K.moved hW.alike hK, hD9⟩, hS.F ht⟩) hS.2.2 dX9_isDigit_17
set_option maxHeartbeats 4000000 in
set_option maxRecDepth 100000 in
theorem c_X9_advance (l : Launch) (D : va_G) (k : Nat → ClassId) (ob : Nat) (obv0 : Int32) (obv1 : Int32) (obv2 : Int32) (obd : Nat) (ob_4 : Nat) (obv5 : Int32) (obv6 : Int32) (obv7 : Int32) (obv8 : Int32) (obg4 : Nat → Int32) (sz : Nat) (h_obv0 : 0 ≤ obv0.toInt ∧ obv0.toInt ≤ 1000) (h_obv7 : 0 ≤ obv7.toInt ∧ obv7.toInt ≤ 1000) : Met l yX9_advance (ww yX9_advance cX9_advance 1 none) ({ frames := 1, cells := 0, slots := 0, locals := 21 }) (Pre0 D k [(ob, .inr (9, [.int obv0, .int obv1, .int obv2, .ref obd, .ref ob_4, .int obv5, .int obv6, .int obv7, .int obv8])), (ob_4, .inl (k 1, 1000, .inl obg4))] sz [.ref ob]) (va_Qv (fun (u : Int32 × Int32 × Int32 × Int32) => match u with | (obv5z, obv6z, obv7z, obv8z) => (0 ≤ obv5z.toInt ∧ obv5z.toInt ≤ 4) ∧ (0 ≤ obv6z.toInt ∧ obv6z.toInt ≤ 1000) ∧ (0 ≤ obv7z.toInt ∧ obv7z.toInt ≤ 1000) ∧ ((-2147483648) ≤ obv8z.toInt ∧ obv8z.toInt ≤ 1000000)) (fun (u : Int32 × Int32 × Int32 × Int32) tZ => match u with | (obv5z, obv6z, obv7z, obv8z) => Bw D k (va_A [(ob, .inr (9, [.int obv0, .int obv1, .int obv2, .ref obd, .ref ob_4, .int obv5, .int obv6, .int obv7, .int obv8])), (ob_4, .inl (k 1, 1000, .inl obg4))] sz) [(ob, .inr (9, [.int obv0, .int obv1, .int obv2, .ref obd, .ref ob_4, .int obv5z, .int obv6z, .int obv7z, .int obv8z])), (ob_4, .inl (k 1, 1000, .inl obg4))] tZ) (va_A [(ob, .inr (9, [.int obv0, .int obv1, .int obv2, .ref obd, .ref ob_4, .int obv5, .int obv6, .int obv7, .int obv8])), (ob_4, .inl (k 1, 1000, .inl obg4))] sz)) 0 0 (va_A [(ob, .inr (9, [.int obv0, .int obv1, .int obv2, .ref obd, .ref ob_4, .int obv5, .int obv6, .int obv7, .int obv8])), (ob_4, .inl (k 1, 1000, .inl obg4))] sz) := by
  refine Met.ofW (cc := cX9_advance) (maxL := 1) (ret := none) (by decide +kernel) rfl ?_
  intro p e s m args below meth c s₁ B hml hv
  obtain ⟨rfl, hsz, hP, hK, hD0, hN⟩ := hv
  have hx := B.exec
  have hb := B.bytes
  have hr := B.returns
  have hts : ∀ w ∈ TT, w.before _ s = true := fun w h => atoms_spec (ws := ww yX9_advance cX9_advance 1 none) B.pre w (List.mem_cons_of_mem _ h)
  have hown : s.vm.findClass RX9 = some m.cls := findClass_of_methodNamed B.named
  have hlocks := B.notSynchronized
  subst hsz
  have hD := hD0.self (sz := s.heap.size)
  generalize hAe : va_A [(ob, .inr (9, [.int obv0, .int obv1, .int obv2, .ref obd, .ref ob_4, .int obv5, .int obv6, .int obv7, .int obv8])), (ob_4, .inl (k 1, 1000, .inl obg4))] s.heap.size = A at hD ⊢
  have hA : ∀ q : Nat, s.heap.size ≤ q → A q := fun q h => by rw [← hAe]; exact Or.inr h
  have hS : va_S A s.heap s.heap [] := va_S.rf
  have hl := lv_entry ([.ref ob]) (n := 1) (Nat.le_of_ble_eq_true rfl)
  rw [lg_entry_eq]
  generalize (lg_sl ([.ref ob]) ++ List.replicate (1 - (lg_sl ([.ref ob])).length) Slot.unset).toArray = ls at hl ⊢
  have hl : lv_has ls 1 [(0, .ref ob)] := hl
  refine lv_aload_n hx hb dX9_advance_0 rfl (lv_at hl 0 rfl) ?_
  refine lv_aload_n hx hb dX9_advance_1 rfl (lv_at hl 0 rfl) ?_
  refine va_get (D := D) (ci := 9) (v := .int obv7) (C := RX9) (T := TX9) (N := 9) hx hb hts iT_X9 hown hK hP 0 rfl rfl 7 (by decide) (hts _ tw_1_206) (fun _ h9 => h9) rfl dX9_advance_2 ?_
  refine va_put (D := D) (ci := 9) (v := .int obv7) (ty := tyX9 6) (C := RX9) (T := TX9) (N := 9) hx hb hts iT_X9 tyX9 tyX9_ok nmX9 hown hK hP hD hS 0 rfl rfl 6 (by decide) (hts _ tw_1_205) (fun _ h9 => h9) rfl (tyX9_ok 6 (by decide)) rfl rfl (Nat.le_of_ble_eq_true rfl) dX9_advance_5 (fun H locs hP hD hS => ?_)
  have hP : va_P D vwCl [(ob, .inr (9, [.int obv0, .int obv1, .int obv2, .ref obd, .ref ob_4, .int obv5, .int obv7, .int obv7, .int obv8])), (ob_4, .inl (k 1, 1000, .inl obg4))] H := hP
  have hD : va_D A [(ob, .inr (9, [.int obv0, .int obv1, .int obv2, .ref obd, .ref ob_4, .int obv5, .int obv7, .int obv7, .int obv8])), (ob_4, .inl (k 1, 1000, .inl obg4))] := hD
  refine loop_r (Wg := fun H locs ls => W p l e _ s m _ below meth c H locs _ _ _ (F0 m 8 ls [])) (fun n9 H locs ls => ∃ (L8f0x6 : Int32), n9 = (1000 - L8f0x6.toInt).toNat ∧ (0 ≤ L8f0x6.toInt ∧ L8f0x6.toInt ≤ 1000) ∧ va_P D vwCl [(ob, .inr (9, [.int obv0, .int obv1, .int obv2, .ref obd, .ref ob_4, .int obv5, .int L8f0x6, .int obv7, .int obv8])), (ob_4, .inl (k 1, 1000, .inl obg4))] H ∧ va_D A [(ob, .inr (9, [.int obv0, .int obv1, .int obv2, .ref obd, .ref ob_4, .int obv5, .int L8f0x6, .int obv7, .int obv8])), (ob_4, .inl (k 1, 1000, .inl obg4))] ∧ va_S A s.heap H locs ∧ lv_has ls 1 [(0, .ref ob)]) (fun n9 H locs ls hI ih_1 => ?_) _ _ _ _ ⟨obv7, rfl, (show 0 ≤ obv7.toInt ∧ obv7.toInt ≤ 1000 from by omega), hP.sub (ws' := [(ob, .inr (9, [.int obv0, .int obv1, .int obv2, .ref obd, .ref ob_4, .int obv5, .int obv7, .int obv7, .int obv8])), (ob_4, .inl (k 1, 1000, .inl obg4))]) [0, 1] rfl, hD.sub (ws' := [(ob, .inr (9, [.int obv0, .int obv1, .int obv2, .ref obd, .ref ob_4, .int obv5, .int obv7, .int obv7, .int obv8])), (ob_4, .inl (k 1, 1000, .inl obg4))]) [0, 1] (by decide +kernel) rfl, hS, lv_sub hl [0] rfl⟩
  clear hP hD hS hl
  obtain ⟨L8f0x6, en_2, zL8f0x6, hP, hD, hS, hl⟩ := hI
  refine lv_aload_n hx hb dX9_advance_8 rfl (lv_at hl 0 rfl) ?_
  refine va_get (D := D) (ci := 9) (v := .int L8f0x6) (C := RX9) (T := TX9) (N := 9) hx hb hts iT_X9 hown hK hP 0 rfl rfl 6 (by decide) (hts _ tw_1_205) (fun _ h9 => h9) rfl dX9_advance_9 ?_
  refine lv_aload_n hx hb dX9_advance_12 rfl (lv_at hl 0 rfl) ?_
  refine va_get (D := D) (ci := 9) (v := .int obv0) (C := RX9) (T := TX9) (N := 9) hx hb hts iT_X9 hown hK hP 0 rfl rfl 0 (by decide) (hts _ tw_1_195) (fun _ h9 => h9) rfl dX9_advance_13 ?_
  refine lv_icmp_ge (tgt := 46) hx hb dX9_advance_16 (by decide) (fun h_3 => ?_) (fun h_3 => ?_)
  · skip
    have zh_3 : obv0.toInt ≤ L8f0x6.toInt := z_le h_3
    refine lv_aload_n hx hb dX9_advance_46 rfl (lv_at hl 0 rfl) ?_
    refine lv_aload_n hx hb dX9_advance_47 rfl (lv_at hl 0 rfl) ?_
    refine va_get (D := D) (ci := 9) (v := .int L8f0x6) (C := RX9) (T := TX9) (N := 9) hx hb hts iT_X9 hown hK hP 0 rfl rfl 6 (by decide) (hts _ tw_1_205) (fun _ h9 => h9) rfl dX9_advance_48 ?_
    refine va_put (D := D) (ci := 9) (v := .int L8f0x6) (ty := tyX9 7) (C := RX9) (T := TX9) (N := 9) hx hb hts iT_X9 tyX9 tyX9_ok nmX9 hown hK hP hD hS 0 rfl rfl 7 (by decide) (hts _ tw_1_206) (fun _ h9 => h9) rfl (tyX9_ok 7 (by decide)) rfl rfl (Nat.le_of_ble_eq_true rfl) dX9_advance_51 (fun H locs hP hD hS => ?_)
    have hP : va_P D vwCl [(ob, .inr (9, [.int obv0, .int obv1, .int obv2, .ref obd, .ref ob_4, .int obv5, .int L8f0x6, .int L8f0x6, .int obv8])), (ob_4, .inl (k 1, 1000, .inl obg4))] H := hP
    have hD : va_D A [(ob, .inr (9, [.int obv0, .int obv1, .int obv2, .ref obd, .ref ob_4, .int obv5, .int L8f0x6, .int L8f0x6, .int obv8])), (ob_4, .inl (k 1, 1000, .inl obg4))] := hD
    refine lv_aload_n hx hb dX9_advance_54 rfl (lv_at hl 0 rfl) ?_
    refine lv_iconst (v := 0) hx hb dX9_advance_55 (by decide) ?_
    refine va_put (D := D) (ci := 9) (v := .int 0) (ty := tyX9 8) (C := RX9) (T := TX9) (N := 9) hx hb hts iT_X9 tyX9 tyX9_ok nmX9 hown hK hP hD hS 0 rfl rfl 8 (by decide) (hts _ tw_1_207) (fun _ h9 => h9) rfl (tyX9_ok 8 (by decide)) rfl rfl (Nat.le_of_ble_eq_true rfl) dX9_advance_56 (fun H locs hP hD hS => ?_)
    have hP : va_P D vwCl [(ob, .inr (9, [.int obv0, .int obv1, .int obv2, .ref obd, .ref ob_4, .int obv5, .int L8f0x6, .int L8f0x6, .int 0])), (ob_4, .inl (k 1, 1000, .inl obg4))] H := hP
    have hD : va_D A [(ob, .inr (9, [.int obv0, .int obv1, .int obv2, .ref obd, .ref ob_4, .int obv5, .int L8f0x6, .int L8f0x6, .int 0])), (ob_4, .inl (k 1, 1000, .inl obg4))] := hD
    refine lv_aload_n hx hb dX9_advance_59 rfl (lv_at hl 0 rfl) ?_
    refine va_get (D := D) (ci := 9) (v := .int L8f0x6) (C := RX9) (T := TX9) (N := 9) hx hb hts iT_X9 hown hK hP 0 rfl rfl 6 (by decide) (hts _ tw_1_205) (fun _ h9 => h9) rfl dX9_advance_60 ?_
    refine lv_aload_n hx hb dX9_advance_63 rfl (lv_at hl 0 rfl) ?_
    refine va_get (D := D) (ci := 9) (v := .int obv0) (C := RX9) (T := TX9) (N := 9) hx hb hts iT_X9 hown hK hP 0 rfl rfl 0 (by decide) (hts _ tw_1_195) (fun _ h9 => h9) rfl dX9_advance_64 ?_
    refine lv_icmp_lt (tgt := 78) hx hb dX9_advance_67 (by decide) (fun h_4 => ?_) (fun h_4 => ?_)
    · skip
      have zh_4 : L8f0x6.toInt < obv0.toInt := z_lt h_4
      refine lv_aload_n hx hb dX9_advance_78 rfl (lv_at hl 0 rfl) ?_
      refine lv_aload_n hx hb dX9_advance_79 rfl (lv_at hl 0 rfl) ?_
      refine va_get (D := D) (ci := 9) (v := .int L8f0x6) (C := RX9) (T := TX9) (N := 9) hx hb hts iT_X9 hown hK hP 0 rfl rfl 6 (by decide) (hts _ tw_1_205) (fun _ h9 => h9) rfl dX9_advance_80 ?_
      obtain ⟨hPc, hDc, hFc⟩ := sub3 hP hD hS hA (ws' := [(ob, .inr (9, [.int obv0, .int obv1, .int obv2, .ref obd, .ref ob_4, .int obv5, .int L8f0x6, .int L8f0x6, .int 0])), (ob_4, .inl (k 1, 1000, .inl obg4))]) [0, 1] (by decide +kernel) rfl
      refine va_calli (va_runV (C := RX9) (As := [.int L8f0x6]) (rest := []) ⟨hx, hb, hml, hown, hts⟩ (c_X9_byteAt l D k ob L8f0x6 obv0 obv1 obv2 obd ob_4 obv5 L8f0x6 L8f0x6 0 obg4 H.size (show 0 ≤ obv0.toInt ∧ obv0.toInt ≤ 1000 from by omega)) (cwV 1 hts (gV tw_3_2 tw_3_4 tw_p_1 tw_1_2 tw_3_5) rfl rfl rfl hdV_X9_byteAt ⟨Nat.le_of_ble_eq_true rfl, Nat.le_of_ble_eq_true rfl⟩) (cz_V hK hPc hDc hN (ci := 9) (q0 := 0) rfl rfl [.int L8f0x6]) rfl rfl hl.1 rfl (lv_room (Nat.le_of_ble_eq_true rfl)) dX9_advance_83 ⟨Nat.le_of_ble_eq_true rfl, Nat.le_of_ble_eq_true rfl⟩) hS (fun q _ h => hFc q h) hFc (fun r_5 uZ tZ H1 locs ht hvm hw hB hz1 hk1 hS => ?_)
      obtain ⟨hP1, hK1, hD1⟩ := hB
      rw [ht] at hP1
      obtain ⟨hP, hD⟩ := va_join (wr := []) (w1 := [(ob, .inr (9, [.int obv0, .int obv1, .int obv2, .ref obd, .ref ob_4, .int obv5, .int L8f0x6, .int L8f0x6, .int 0])), (ob_4, .inl (k 1, 1000, .inl obg4))]) hP hD [0, 1] [] rfl rfl (by decide +kernel) (by decide +kernel) hk1 hFc hP1 hD1
      clear hK1 hP1 hD1 hPc hDc hFc
      clear hk1 hz1 ht hvm
      have hP : va_P D vwCl [(ob, .inr (9, [.int obv0, .int obv1, .int obv2, .ref obd, .ref ob_4, .int obv5, .int L8f0x6, .int L8f0x6, .int 0])), (ob_4, .inl (k 1, 1000, .inl obg4))] H1 := hP
      have hD : va_D A [(ob, .inr (9, [.int obv0, .int obv1, .int obv2, .ref obd, .ref ob_4, .int obv5, .int L8f0x6, .int L8f0x6, .int 0])), (ob_4, .inl (k 1, 1000, .inl obg4))] := hD
      generalize H1 = H at hP hS ⊢
      clear hw
      obtain ⟨hPc, hDc, hFc⟩ := sub3 hP hD hS hA (ws' := []) [] (by decide +kernel) rfl
      refine va_calli (va_runS (As := [.int r_5]) (rest := []) ⟨hx, hb, hml, hown, hts⟩ (c_X9_isLetter l D k r_5 H.size) (va_cwS 1 hts (gS tw_3_9 tw_3_10 tw_1_2 tw_3_11) rfl rfl rfl hdS_X9_isLetter ⟨Nat.le_of_ble_eq_true rfl, Nat.le_of_ble_eq_true rfl⟩) (cz_S hK hPc hDc hN [.int r_5]) rfl rfl hl.1 rfl (lv_room (Nat.le_of_ble_eq_true rfl)) dX9_advance_86 ⟨Nat.le_of_ble_eq_true rfl, Nat.le_of_ble_eq_true rfl⟩) hS (fun q _ h => hFc q h) hFc (fun r_7 uZ tZ H1 locs ht hvm hw hB hz1 hk1 hS => ?_)
      obtain ⟨hP1, hK1, hD1⟩ := hB
      rw [ht] at hP1
      obtain ⟨hP, hD⟩ := va_join (wr := [(ob, .inr (9, [.int obv0, .int obv1, .int obv2, .ref obd, .ref ob_4, .int obv5, .int L8f0x6, .int L8f0x6, .int 0])), (ob_4, .inl (k 1, 1000, .inl obg4))]) (w1 := []) hP hD [] [0, 1] rfl rfl (by decide +kernel) (by decide +kernel) hk1 hFc hP1 hD1
      clear hK1 hP1 hD1 hPc hDc hFc
      clear hk1 hz1 ht hvm
      have hP : va_P D vwCl [(ob, .inr (9, [.int obv0, .int obv1, .int obv2, .ref obd, .ref ob_4, .int obv5, .int L8f0x6, .int L8f0x6, .int 0])), (ob_4, .inl (k 1, 1000, .inl obg4))] H1 := hP
      have hD : va_D A [(ob, .inr (9, [.int obv0, .int obv1, .int obv2, .ref obd, .ref ob_4, .int obv5, .int L8f0x6, .int L8f0x6, .int 0])), (ob_4, .inl (k 1, 1000, .inl obg4))] := hD
      generalize H1 = H at hP hS ⊢
      have hw_8 : (0 ≤ r_7.toInt ∧ r_7.toInt ≤ 1) := hw
      have hw_9 := hw_8
      clear hw
      refine lv_if_eq (tgt := 135) hx hb dX9_advance_89 (by decide) (fun h_10 => ?_) (fun h_10 => ?_)
      · skip
        have zh_10 : r_7.toInt = 0 := z_eq h_10
        refine lv_aload_n hx hb dX9_advance_135 rfl (lv_at hl 0 rfl) ?_
        refine lv_aload_n hx hb dX9_advance_136 rfl (lv_at hl 0 rfl) ?_
        refine va_get (D := D) (ci := 9) (v := .int L8f0x6) (C := RX9) (T := TX9) (N := 9) hx hb hts iT_X9 hown hK hP 0 rfl rfl 6 (by decide) (hts _ tw_1_205) (fun _ h9 => h9) rfl dX9_advance_137 ?_
        obtain ⟨hPc, hDc, hFc⟩ := sub3 hP hD hS hA (ws' := [(ob, .inr (9, [.int obv0, .int obv1, .int obv2, .ref obd, .ref ob_4, .int obv5, .int L8f0x6, .int L8f0x6, .int 0])), (ob_4, .inl (k 1, 1000, .inl obg4))]) [0, 1] (by decide +kernel) rfl
        refine va_calli (va_runV (C := RX9) (As := [.int L8f0x6]) (rest := []) ⟨hx, hb, hml, hown, hts⟩ (c_X9_byteAt l D k ob L8f0x6 obv0 obv1 obv2 obd ob_4 obv5 L8f0x6 L8f0x6 0 obg4 H.size (show 0 ≤ obv0.toInt ∧ obv0.toInt ≤ 1000 from by omega)) (cwV 1 hts (gV tw_3_2 tw_3_4 tw_p_1 tw_1_2 tw_3_5) rfl rfl rfl hdV_X9_byteAt ⟨Nat.le_of_ble_eq_true rfl, Nat.le_of_ble_eq_true rfl⟩) (cz_V hK hPc hDc hN (ci := 9) (q0 := 0) rfl rfl [.int L8f0x6]) rfl rfl hl.1 rfl (lv_room (Nat.le_of_ble_eq_true rfl)) dX9_advance_140 ⟨Nat.le_of_ble_eq_true rfl, Nat.le_of_ble_eq_true rfl⟩) hS (fun q _ h => hFc q h) hFc (fun r_11 uZ tZ H1 locs ht hvm hw hB hz1 hk1 hS => ?_)
        obtain ⟨hP1, hK1, hD1⟩ := hB
        rw [ht] at hP1
        obtain ⟨hP, hD⟩ := va_join (wr := []) (w1 := [(ob, .inr (9, [.int obv0, .int obv1, .int obv2, .ref obd, .ref ob_4, .int obv5, .int L8f0x6, .int L8f0x6, .int 0])), (ob_4, .inl (k 1, 1000, .inl obg4))]) hP hD [0, 1] [] rfl rfl (by decide +kernel) (by decide +kernel) hk1 hFc hP1 hD1
        clear hK1 hP1 hD1 hPc hDc hFc
        clear hk1 hz1 ht hvm
        have hP : va_P D vwCl [(ob, .inr (9, [.int obv0, .int obv1, .int obv2, .ref obd, .ref ob_4, .int obv5, .int L8f0x6, .int L8f0x6, .int 0])), (ob_4, .inl (k 1, 1000, .inl obg4))] H1 := hP
        have hD : va_D A [(ob, .inr (9, [.int obv0, .int obv1, .int obv2, .ref obd, .ref ob_4, .int obv5, .int L8f0x6, .int L8f0x6, .int 0])), (ob_4, .inl (k 1, 1000, .inl obg4))] := hD
        generalize H1 = H at hP hS ⊢
        clear hw
        obtain ⟨hPc, hDc, hFc⟩ := sub3 hP hD hS hA (ws' := []) [] (by decide +kernel) rfl
        refine va_calli (va_runS (As := [.int r_11]) (rest := []) ⟨hx, hb, hml, hown, hts⟩ (c_X9_isDigit l D k r_11 H.size) (va_cwS 1 hts (gS tw_3_12 tw_3_13 tw_1_2 tw_3_14) rfl rfl rfl hdS_X9_isDigit ⟨Nat.le_of_ble_eq_true rfl, Nat.le_of_ble_eq_true rfl⟩) (cz_S hK hPc hDc hN [.int r_11]) rfl rfl hl.1 rfl (lv_room (Nat.le_of_ble_eq_true rfl)) dX9_advance_143 ⟨Nat.le_of_ble_eq_true rfl, Nat.le_of_ble_eq_true rfl⟩) hS (fun q _ h => hFc q h) hFc (fun r_13 uZ tZ H1 locs ht hvm hw hB hz1 hk1 hS => ?_)
        obtain ⟨hP1, hK1, hD1⟩ := hB
        rw [ht] at hP1
        obtain ⟨hP, hD⟩ := va_join (wr := [(ob, .inr (9, [.int obv0, .int obv1, .int obv2, .ref obd, .ref ob_4, .int obv5, .int L8f0x6, .int L8f0x6, .int 0])), (ob_4, .inl (k 1, 1000, .inl obg4))]) (w1 := []) hP hD [] [0, 1] rfl rfl (by decide +kernel) (by decide +kernel) hk1 hFc hP1 hD1
        clear hK1 hP1 hD1 hPc hDc hFc
        clear hk1 hz1 ht hvm
        have hP : va_P D vwCl [(ob, .inr (9, [.int obv0, .int obv1, .int obv2, .ref obd, .ref ob_4, .int obv5, .int L8f0x6, .int L8f0x6, .int 0])), (ob_4, .inl (k 1, 1000, .inl obg4))] H1 := hP
        have hD : va_D A [(ob, .inr (9, [.int obv0, .int obv1, .int obv2, .ref obd, .ref ob_4, .int obv5, .int L8f0x6, .int L8f0x6, .int 0])), (ob_4, .inl (k 1, 1000, .inl obg4))] := hD
        generalize H1 = H at hP hS ⊢
        have hw_14 : (0 ≤ r_13.toInt ∧ r_13.toInt ≤ 1) := hw
        have hw_15 := hw_14
        clear hw
        refine lv_if_eq (tgt := 220) hx hb dX9_advance_146 (by decide) (fun h_16 => ?_) (fun h_16 => ?_)
        · skip
          have zh_16 : r_13.toInt = 0 := z_eq h_16
          refine lv_aload_n hx hb dX9_advance_220 rfl (lv_at hl 0 rfl) ?_
          refine lv_aload_n hx hb dX9_advance_221 rfl (lv_at hl 0 rfl) ?_
          refine lv_aload_n hx hb dX9_advance_222 rfl (lv_at hl 0 rfl) ?_
          refine va_get (D := D) (ci := 9) (v := .int L8f0x6) (C := RX9) (T := TX9) (N := 9) hx hb hts iT_X9 hown hK hP 0 rfl rfl 6 (by decide) (hts _ tw_1_205) (fun _ h9 => h9) rfl dX9_advance_223 ?_
          obtain ⟨hPc, hDc, hFc⟩ := sub3 hP hD hS hA (ws' := [(ob, .inr (9, [.int obv0, .int obv1, .int obv2, .ref obd, .ref ob_4, .int obv5, .int L8f0x6, .int L8f0x6, .int 0])), (ob_4, .inl (k 1, 1000, .inl obg4))]) [0, 1] (by decide +kernel) rfl
          refine va_calli (va_runV (C := RX9) (As := [.int L8f0x6]) (rest := [.ref ob]) ⟨hx, hb, hml, hown, hts⟩ (c_X9_byteAt l D k ob L8f0x6 obv0 obv1 obv2 obd ob_4 obv5 L8f0x6 L8f0x6 0 obg4 H.size (show 0 ≤ obv0.toInt ∧ obv0.toInt ≤ 1000 from by omega)) (cwV 1 hts (gV tw_3_2 tw_3_4 tw_p_1 tw_1_2 tw_3_5) rfl rfl rfl hdV_X9_byteAt ⟨Nat.le_of_ble_eq_true rfl, Nat.le_of_ble_eq_true rfl⟩) (cz_V hK hPc hDc hN (ci := 9) (q0 := 0) rfl rfl [.int L8f0x6]) rfl rfl hl.1 rfl (lv_room (Nat.le_of_ble_eq_true rfl)) dX9_advance_226 ⟨Nat.le_of_ble_eq_true rfl, Nat.le_of_ble_eq_true rfl⟩) hS (fun q _ h => hFc q h) hFc (fun r_17 uZ tZ H1 locs ht hvm hw hB hz1 hk1 hS => ?_)
          obtain ⟨hP1, hK1, hD1⟩ := hB
          rw [ht] at hP1
          obtain ⟨hP, hD⟩ := va_join (wr := []) (w1 := [(ob, .inr (9, [.int obv0, .int obv1, .int obv2, .ref obd, .ref ob_4, .int obv5, .int L8f0x6, .int L8f0x6, .int 0])), (ob_4, .inl (k 1, 1000, .inl obg4))]) hP hD [0, 1] [] rfl rfl (by decide +kernel) (by decide +kernel) hk1 hFc hP1 hD1
          clear hK1 hP1 hD1 hPc hDc hFc
          clear hk1 hz1 ht hvm
          have hP : va_P D vwCl [(ob, .inr (9, [.int obv0, .int obv1, .int obv2, .ref obd, .ref ob_4, .int obv5, .int L8f0x6, .int L8f0x6, .int 0])), (ob_4, .inl (k 1, 1000, .inl obg4))] H1 := hP
          have hD : va_D A [(ob, .inr (9, [.int obv0, .int obv1, .int obv2, .ref obd, .ref ob_4, .int obv5, .int L8f0x6, .int L8f0x6, .int 0])), (ob_4, .inl (k 1, 1000, .inl obg4))] := hD
          generalize H1 = H at hP hS ⊢
          clear hw
          refine lv_bipush (v := 59) hx hb dX9_advance_229 (by decide) ?_
          refine lv_icmp_ne (tgt := 238) hx hb dX9_advance_231 (by decide) (fun h_19 => ?_) (fun h_19 => ?_)
          · skip
            have zh_19 : ¬ r_17.toInt = 59 := z_ne h_19
            refine lv_iconst (v := 4) hx hb dX9_advance_238 (by decide) ?_
            refine va_put (D := D) (ci := 9) (v := .int 4) (ty := tyX9 5) (C := RX9) (T := TX9) (N := 9) hx hb hts iT_X9 tyX9 tyX9_ok nmX9 hown hK hP hD hS 0 rfl rfl 5 (by decide) (hts _ tw_1_204) (fun _ h9 => h9) rfl (tyX9_ok 5 (by decide)) rfl rfl (Nat.le_of_ble_eq_true rfl) dX9_advance_239 (fun H locs hP hD hS => ?_)
            have hP : va_P D vwCl [(ob, .inr (9, [.int obv0, .int obv1, .int obv2, .ref obd, .ref ob_4, .int 4, .int L8f0x6, .int L8f0x6, .int 0])), (ob_4, .inl (k 1, 1000, .inl obg4))] H := hP
            have hD : va_D A [(ob, .inr (9, [.int obv0, .int obv1, .int obv2, .ref obd, .ref ob_4, .int 4, .int L8f0x6, .int L8f0x6, .int 0])), (ob_4, .inl (k 1, 1000, .inl obg4))] := hD
            refine lv_aload_n hx hb dX9_advance_242 rfl (lv_at hl 0 rfl) ?_
            refine lv_aload_n hx hb dX9_advance_243 rfl (lv_at hl 0 rfl) ?_
            refine va_get (D := D) (ci := 9) (v := .int L8f0x6) (C := RX9) (T := TX9) (N := 9) hx hb hts iT_X9 hown hK hP 0 rfl rfl 6 (by decide) (hts _ tw_1_205) (fun _ h9 => h9) rfl dX9_advance_244 ?_
            refine lv_iconst (v := 1) hx hb dX9_advance_247 (by decide) ?_
            refine lv_iadd hx hb dX9_advance_248 ?_
            refine lv_topi (fun x_20 ex_20 => ?_)
            have zx_20 : x_20.toInt = L8f0x6.toInt + 1 := by rw [ex_20]; exact z_add rfl rfl (by omega) (by omega)
            refine va_put (D := D) (ci := 9) (v := .int x_20) (ty := tyX9 7) (C := RX9) (T := TX9) (N := 9) hx hb hts iT_X9 tyX9 tyX9_ok nmX9 hown hK hP hD hS 0 rfl rfl 7 (by decide) (hts _ tw_1_206) (fun _ h9 => h9) rfl (tyX9_ok 7 (by decide)) rfl rfl (Nat.le_of_ble_eq_true rfl) dX9_advance_249 (fun H locs hP hD hS => ?_)
            have hP : va_P D vwCl [(ob, .inr (9, [.int obv0, .int obv1, .int obv2, .ref obd, .ref ob_4, .int 4, .int L8f0x6, .int x_20, .int 0])), (ob_4, .inl (k 1, 1000, .inl obg4))] H := hP
            have hD : va_D A [(ob, .inr (9, [.int obv0, .int obv1, .int obv2, .ref obd, .ref ob_4, .int 4, .int L8f0x6, .int x_20, .int 0])), (ob_4, .inl (k 1, 1000, .inl obg4))] := hD
            obtain ⟨hP9, hD9⟩ := sub2 hP hD (ws' := [(ob, .inr (9, [.int obv0, .int obv1, .int obv2, .ref obd, .ref ob_4, .int 4, .int L8f0x6, .int x_20, .int 0])), (ob_4, .inl (k 1, 1000, .inl obg4))]) [0, 1] (by decide +kernel) rfl
            exact W.vret hx hb hr (fun tZ ht hW => ⟨⟨(4, L8f0x6, x_20, 0), rfl, ⟨(show 0 ≤ 4 ∧ 4 ≤ 4 from by omega), (show 0 ≤ L8f0x6.toInt ∧ L8f0x6.toInt ≤ 1000 from by omega), (show 0 ≤ x_20.toInt ∧ x_20.toInt ≤ 1000 from by omega), (show (-2147483648) ≤ 0 ∧ 0 ≤ 1000000 from by omega)⟩, by rw [ht]; exact hP9, va_K.moved hW.alike hK, hD9⟩, hS.F ht⟩) hS.2.2 dX9_advance_252
          · skip
            have zh_19 : r_17.toInt = 59 := z_eq h_19
            refine lv_iconst (v := 3) hx hb dX9_advance_234 (by decide) ?_
            refine lv_goto (tgt := 239) hx hb dX9_advance_235 (by decide) ?_
            refine va_put (D := D) (ci := 9) (v := .int 3) (ty := tyX9 5) (C := RX9) (T := TX9) (N := 9) hx hb hts iT_X9 tyX9 tyX9_ok nmX9 hown hK hP hD hS 0 rfl rfl 5 (by decide) (hts _ tw_1_204) (fun _ h9 => h9) rfl (tyX9_ok 5 (by decide)) rfl rfl (Nat.le_of_ble_eq_true rfl) dX9_advance_239 (fun H locs hP hD hS => ?_)
            have hP : va_P D vwCl [(ob, .inr (9, [.int obv0, .int obv1, .int obv2, .ref obd, .ref ob_4, .int 3, .int L8f0x6, .int L8f0x6, .int 0])), (ob_4, .inl (k 1, 1000, .inl obg4))] H := hP
            have hD : va_D A [(ob, .inr (9, [.int obv0, .int obv1, .int obv2, .ref obd, .ref ob_4, .int 3, .int L8f0x6, .int L8f0x6, .int 0])), (ob_4, .inl (k 1, 1000, .inl obg4))] := hD
            refine lv_aload_n hx hb dX9_advance_242 rfl (lv_at hl 0 rfl) ?_
            refine lv_aload_n hx hb dX9_advance_243 rfl (lv_at hl 0 rfl) ?_
            refine va_get (D := D) (ci := 9) (v := .int L8f0x6) (C := RX9) (T := TX9) (N := 9) hx hb hts iT_X9 hown hK hP 0 rfl rfl 6 (by decide) (hts _ tw_1_205) (fun _ h9 => h9) rfl dX9_advance_244 ?_
            refine lv_iconst (v := 1) hx hb dX9_advance_247 (by decide) ?_
            refine lv_iadd hx hb dX9_advance_248 ?_
            refine lv_topi (fun x_21 ex_21 => ?_)
            have zx_21 : x_21.toInt = L8f0x6.toInt + 1 := by rw [ex_21]; exact z_add rfl rfl (by omega) (by omega)
            refine va_put (D := D) (ci := 9) (v := .int x_21) (ty := tyX9 7) (C := RX9) (T := TX9) (N := 9) hx hb hts iT_X9 tyX9 tyX9_ok nmX9 hown hK hP hD hS 0 rfl rfl 7 (by decide) (hts _ tw_1_206) (fun _ h9 => h9) rfl (tyX9_ok 7 (by decide)) rfl rfl (Nat.le_of_ble_eq_true rfl) dX9_advance_249 (fun H locs hP hD hS => ?_)
            have hP : va_P D vwCl [(ob, .inr (9, [.int obv0, .int obv1, .int obv2, .ref obd, .ref ob_4, .int 3, .int L8f0x6, .int x_21, .int 0])), (ob_4, .inl (k 1, 1000, .inl obg4))] H := hP
            have hD : va_D A [(ob, .inr (9, [.int obv0, .int obv1, .int obv2, .ref obd, .ref ob_4, .int 3, .int L8f0x6, .int x_21, .int 0])), (ob_4, .inl (k 1, 1000, .inl obg4))] := hD
            obtain ⟨hP9, hD9⟩ := sub2 hP hD (ws' := [(ob, .inr (9, [.int obv0, .int obv1, .int obv2, .ref obd, .ref ob_4, .int 3, .int L8f0x6, .int x_21, .int 0])), (ob_4, .inl (k 1, 1000, .inl obg4))]) [0, 1] (by decide +kernel) rfl
            exact W.vret hx hb hr (fun tZ ht hW => ⟨⟨(3, L8f0x6, x_21, 0), rfl, ⟨(show 0 ≤ 3 ∧ 3 ≤ 4 from by omega), (show 0 ≤ L8f0x6.toInt ∧ L8f0x6.toInt ≤ 1000 from by omega), (show 0 ≤ x_21.toInt ∧ x_21.toInt ≤ 1000 from by omega), (show (-2147483648) ≤ 0 ∧ 0 ≤ 1000000 from by omega)⟩, by rw [ht]; exact hP9, va_K.moved hW.alike hK, hD9⟩, hS.F ht⟩) hS.2.2 dX9_advance_252
        · skip
          have zh_16 : ¬ r_13.toInt = 0 := z_ne h_16
          refine lv_aload_n hx hb dX9_advance_149 rfl (lv_at hl 0 rfl) ?_
          refine lv_iconst (v := 2) hx hb dX9_advance_150 (by decide) ?_
          refine va_put (D := D) (ci := 9) (v := .int 2) (ty := tyX9 5) (C := RX9) (T := TX9) (N := 9) hx hb hts iT_X9 tyX9 tyX9_ok nmX9 hown hK hP hD hS 0 rfl rfl 5 (by decide) (hts _ tw_1_204) (fun _ h9 => h9) rfl (tyX9_ok 5 (by decide)) rfl rfl (Nat.le_of_ble_eq_true rfl) dX9_advance_151 (fun H locs hP hD hS => ?_)
          have hP : va_P D vwCl [(ob, .inr (9, [.int obv0, .int obv1, .int obv2, .ref obd, .ref ob_4, .int 2, .int L8f0x6, .int L8f0x6, .int 0])), (ob_4, .inl (k 1, 1000, .inl obg4))] H := hP
          have hD : va_D A [(ob, .inr (9, [.int obv0, .int obv1, .int obv2, .ref obd, .ref ob_4, .int 2, .int L8f0x6, .int L8f0x6, .int 0])), (ob_4, .inl (k 1, 1000, .inl obg4))] := hD
          refine loop_r (Wg := fun H locs ls => W p l e _ s m _ below meth c H locs _ _ _ (F0 m 154 ls [])) (fun n9 H locs ls => ∃ (L154f0x7 : Int32) (L154f0x8 : Int32), n9 = (1000 - L154f0x7.toInt).toNat ∧ (0 ≤ L154f0x7.toInt ∧ L154f0x7.toInt ≤ 1000) ∧ ((-2147483648) ≤ L154f0x8.toInt ∧ L154f0x8.toInt ≤ 1000000) ∧ va_P D vwCl [(ob, .inr (9, [.int obv0, .int obv1, .int obv2, .ref obd, .ref ob_4, .int 2, .int L8f0x6, .int L154f0x7, .int L154f0x8])), (ob_4, .inl (k 1, 1000, .inl obg4))] H ∧ va_D A [(ob, .inr (9, [.int obv0, .int obv1, .int obv2, .ref obd, .ref ob_4, .int 2, .int L8f0x6, .int L154f0x7, .int L154f0x8])), (ob_4, .inl (k 1, 1000, .inl obg4))] ∧ va_S A s.heap H locs ∧ lv_has ls 1 [(0, .ref ob)]) (fun n9 H locs ls hI ih_22 => ?_) _ _ _ _ ⟨L8f0x6, 0, rfl, (show 0 ≤ L8f0x6.toInt ∧ L8f0x6.toInt ≤ 1000 from by omega), (show (-2147483648) ≤ 0 ∧ 0 ≤ 1000000 from by omega), hP.sub (ws' := [(ob, .inr (9, [.int obv0, .int obv1, .int obv2, .ref obd, .ref ob_4, .int 2, .int L8f0x6, .int L8f0x6, .int 0])), (ob_4, .inl (k 1, 1000, .inl obg4))]) [0, 1] rfl, hD.sub (ws' := [(ob, .inr (9, [.int obv0, .int obv1, .int obv2, .ref obd, .ref ob_4, .int 2, .int L8f0x6, .int L8f0x6, .int 0])), (ob_4, .inl (k 1, 1000, .inl obg4))]) [0, 1] (by decide +kernel) rfl, hS, lv_sub hl [0] rfl⟩
          clear hP hD hS hl
          obtain ⟨L154f0x7, L154f0x8, en_23, zL154f0x7, zL154f0x8, hP, hD, hS, hl⟩ := hI
          refine lv_aload_n hx hb dX9_advance_154 rfl (lv_at hl 0 rfl) ?_
          refine va_get (D := D) (ci := 9) (v := .int L154f0x7) (C := RX9) (T := TX9) (N := 9) hx hb hts iT_X9 hown hK hP 0 rfl rfl 7 (by decide) (hts _ tw_1_206) (fun _ h9 => h9) rfl dX9_advance_155 ?_
          refine lv_aload_n hx hb dX9_advance_158 rfl (lv_at hl 0 rfl) ?_
          refine va_get (D := D) (ci := 9) (v := .int obv0) (C := RX9) (T := TX9) (N := 9) hx hb hts iT_X9 hown hK hP 0 rfl rfl 0 (by decide) (hts _ tw_1_195) (fun _ h9 => h9) rfl dX9_advance_159 ?_
          refine lv_icmp_ge (tgt := 252) hx hb dX9_advance_162 (by decide) (fun h_24 => ?_) (fun h_24 => ?_)
          · skip
            have zh_24 : obv0.toInt ≤ L154f0x7.toInt := z_le h_24
            obtain ⟨hP9, hD9⟩ := sub2 hP hD (ws' := [(ob, .inr (9, [.int obv0, .int obv1, .int obv2, .ref obd, .ref ob_4, .int 2, .int L8f0x6, .int L154f0x7, .int L154f0x8])), (ob_4, .inl (k 1, 1000, .inl obg4))]) [0, 1] (by decide +kernel) rfl
            exact W.vret hx hb hr (fun tZ ht hW => ⟨⟨(2, L8f0x6, L154f0x7, L154f0x8), rfl, ⟨(show 0 ≤ 2 ∧ 2 ≤ 4 from by omega), (show 0 ≤ L8f0x6.toInt ∧ L8f0x6.toInt ≤ 1000 from by omega), (show 0 ≤ L154f0x7.toInt ∧ L154f0x7.toInt ≤ 1000 from by omega), (show (-2147483648) ≤ L154f0x8.toInt ∧ L154f0x8.toInt ≤ 1000000 from by have := z_rng L154f0x8; omega)⟩, by rw [ht]; exact hP9, va_K.moved hW.alike hK, hD9⟩, hS.F ht⟩) hS.2.2 dX9_advance_252
          · skip
            have zh_24 : L154f0x7.toInt < obv0.toInt := z_nle h_24
            refine lv_aload_n hx hb dX9_advance_165 rfl (lv_at hl 0 rfl) ?_
            refine lv_aload_n hx hb dX9_advance_166 rfl (lv_at hl 0 rfl) ?_
            refine va_get (D := D) (ci := 9) (v := .int L154f0x7) (C := RX9) (T := TX9) (N := 9) hx hb hts iT_X9 hown hK hP 0 rfl rfl 7 (by decide) (hts _ tw_1_206) (fun _ h9 => h9) rfl dX9_advance_167 ?_
            obtain ⟨hPc, hDc, hFc⟩ := sub3 hP hD hS hA (ws' := [(ob, .inr (9, [.int obv0, .int obv1, .int obv2, .ref obd, .ref ob_4, .int 2, .int L8f0x6, .int L154f0x7, .int L154f0x8])), (ob_4, .inl (k 1, 1000, .inl obg4))]) [0, 1] (by decide +kernel) rfl
            refine va_calli (va_runV (C := RX9) (As := [.int L154f0x7]) (rest := []) ⟨hx, hb, hml, hown, hts⟩ (c_X9_byteAt l D k ob L154f0x7 obv0 obv1 obv2 obd ob_4 2 L8f0x6 L154f0x7 L154f0x8 obg4 H.size (show 0 ≤ obv0.toInt ∧ obv0.toInt ≤ 1000 from by omega)) (cwV 1 hts (gV tw_3_2 tw_3_4 tw_p_1 tw_1_2 tw_3_5) rfl rfl rfl hdV_X9_byteAt ⟨Nat.le_of_ble_eq_true rfl, Nat.le_of_ble_eq_true rfl⟩) (cz_V hK hPc hDc hN (ci := 9) (q0 := 0) rfl rfl [.int L154f0x7]) rfl rfl hl.1 rfl (lv_room (Nat.le_of_ble_eq_true rfl)) dX9_advance_170 ⟨Nat.le_of_ble_eq_true rfl, Nat.le_of_ble_eq_true rfl⟩) hS (fun q _ h => hFc q h) hFc (fun r_25 uZ tZ H1 locs ht hvm hw hB hz1 hk1 hS => ?_)
            obtain ⟨hP1, hK1, hD1⟩ := hB
            rw [ht] at hP1
            obtain ⟨hP, hD⟩ := va_join (wr := []) (w1 := [(ob, .inr (9, [.int obv0, .int obv1, .int obv2, .ref obd, .ref ob_4, .int 2, .int L8f0x6, .int L154f0x7, .int L154f0x8])), (ob_4, .inl (k 1, 1000, .inl obg4))]) hP hD [0, 1] [] rfl rfl (by decide +kernel) (by decide +kernel) hk1 hFc hP1 hD1
            clear hK1 hP1 hD1 hPc hDc hFc
            clear hk1 hz1 ht hvm
            have hP : va_P D vwCl [(ob, .inr (9, [.int obv0, .int obv1, .int obv2, .ref obd, .ref ob_4, .int 2, .int L8f0x6, .int L154f0x7, .int L154f0x8])), (ob_4, .inl (k 1, 1000, .inl obg4))] H1 := hP
            have hD : va_D A [(ob, .inr (9, [.int obv0, .int obv1, .int obv2, .ref obd, .ref ob_4, .int 2, .int L8f0x6, .int L154f0x7, .int L154f0x8])), (ob_4, .inl (k 1, 1000, .inl obg4))] := hD
            generalize H1 = H at hP hS ⊢
            clear hw
            obtain ⟨hPc, hDc, hFc⟩ := sub3 hP hD hS hA (ws' := []) [] (by decide +kernel) rfl
            refine va_calli (va_runS (As := [.int r_25]) (rest := []) ⟨hx, hb, hml, hown, hts⟩ (c_X9_isDigit l D k r_25 H.size) (va_cwS 1 hts (gS tw_3_12 tw_3_13 tw_1_2 tw_3_14) rfl rfl rfl hdS_X9_isDigit ⟨Nat.le_of_ble_eq_true rfl, Nat.le_of_ble_eq_true rfl⟩) (cz_S hK hPc hDc hN [.int r_25]) rfl rfl hl.1 rfl (lv_room (Nat.le_of_ble_eq_true rfl)) dX9_advance_173 ⟨Nat.le_of_ble_eq_true rfl, Nat.le_of_ble_eq_true rfl⟩) hS (fun q _ h => hFc q h) hFc (fun r_27 uZ tZ H1 locs ht hvm hw hB hz1 hk1 hS => ?_)
            obtain ⟨hP1, hK1, hD1⟩ := hB
            rw [ht] at hP1
            obtain ⟨hP, hD⟩ := va_join (wr := [(ob, .inr (9, [.int obv0, .int obv1, .int obv2, .ref obd, .ref ob_4, .int 2, .int L8f0x6, .int L154f0x7, .int L154f0x8])), (ob_4, .inl (k 1, 1000, .inl obg4))]) (w1 := []) hP hD [] [0, 1] rfl rfl (by decide +kernel) (by decide +kernel) hk1 hFc hP1 hD1
            clear hK1 hP1 hD1 hPc hDc hFc
            clear hk1 hz1 ht hvm
            have hP : va_P D vwCl [(ob, .inr (9, [.int obv0, .int obv1, .int obv2, .ref obd, .ref ob_4, .int 2, .int L8f0x6, .int L154f0x7, .int L154f0x8])), (ob_4, .inl (k 1, 1000, .inl obg4))] H1 := hP
            have hD : va_D A [(ob, .inr (9, [.int obv0, .int obv1, .int obv2, .ref obd, .ref ob_4, .int 2, .int L8f0x6, .int L154f0x7, .int L154f0x8])), (ob_4, .inl (k 1, 1000, .inl obg4))] := hD
            generalize H1 = H at hP hS ⊢
            have hw_28 : (0 ≤ r_27.toInt ∧ r_27.toInt ≤ 1) := hw
            have hw_29 := hw_28
            clear hw
            refine lv_if_eq (tgt := 252) hx hb dX9_advance_176 (by decide) (fun h_30 => ?_) (fun h_30 => ?_)
            · skip
              have zh_30 : r_27.toInt = 0 := z_eq h_30
              obtain ⟨hP9, hD9⟩ := sub2 hP hD (ws' := [(ob, .inr (9, [.int obv0, .int obv1, .int obv2, .ref obd, .ref ob_4, .int 2, .int L8f0x6, .int L154f0x7, .int L154f0x8])), (ob_4, .inl (k 1, 1000, .inl obg4))]) [0, 1] (by decide +kernel) rfl
              exact W.vret hx hb hr (fun tZ ht hW => ⟨⟨(2, L8f0x6, L154f0x7, L154f0x8), rfl, ⟨(show 0 ≤ 2 ∧ 2 ≤ 4 from by omega), (show 0 ≤ L8f0x6.toInt ∧ L8f0x6.toInt ≤ 1000 from by omega), (show 0 ≤ L154f0x7.toInt ∧ L154f0x7.toInt ≤ 1000 from by omega), (show (-2147483648) ≤ L154f0x8.toInt ∧ L154f0x8.toInt ≤ 1000000 from by have := z_rng L154f0x8; omega)⟩, by rw [ht]; exact hP9, va_K.moved hW.alike hK, hD9⟩, hS.F ht⟩) hS.2.2 dX9_advance_252
            · skip
              have zh_30 : ¬ r_27.toInt = 0 := z_ne h_30
              refine lv_aload_n hx hb dX9_advance_179 rfl (lv_at hl 0 rfl) ?_
              refine lv_aload_n hx hb dX9_advance_180 rfl (lv_at hl 0 rfl) ?_
              refine va_get (D := D) (ci := 9) (v := .int L154f0x8) (C := RX9) (T := TX9) (N := 9) hx hb hts iT_X9 hown hK hP 0 rfl rfl 8 (by decide) (hts _ tw_1_207) (fun _ h9 => h9) rfl dX9_advance_181 ?_
              refine lv_bipush (v := 10) hx hb dX9_advance_184 (by decide) ?_
              refine lv_imul hx hb dX9_advance_186 ?_
              refine lv_topi (fun x_31 ex_31 => ?_)
              have zrL154f0x8 := z_rng L154f0x8
              refine lv_aload_n hx hb dX9_advance_187 rfl (lv_at hl 0 rfl) ?_
              refine lv_aload_n hx hb dX9_advance_188 rfl (lv_at hl 0 rfl) ?_
              refine va_get (D := D) (ci := 9) (v := .int L154f0x7) (C := RX9) (T := TX9) (N := 9) hx hb hts iT_X9 hown hK hP 0 rfl rfl 7 (by decide) (hts _ tw_1_206) (fun _ h9 => h9) rfl dX9_advance_189 ?_
              obtain ⟨hPc, hDc, hFc⟩ := sub3 hP hD hS hA (ws' := [(ob, .inr (9, [.int obv0, .int obv1, .int obv2, .ref obd, .ref ob_4, .int 2, .int L8f0x6, .int L154f0x7, .int L154f0x8])), (ob_4, .inl (k 1, 1000, .inl obg4))]) [0, 1] (by decide +kernel) rfl
              refine va_calli (va_runV (C := RX9) (As := [.int L154f0x7]) (rest := [.int x_31, .ref ob]) ⟨hx, hb, hml, hown, hts⟩ (c_X9_byteAt l D k ob L154f0x7 obv0 obv1 obv2 obd ob_4 2 L8f0x6 L154f0x7 L154f0x8 obg4 H.size (show 0 ≤ obv0.toInt ∧ obv0.toInt ≤ 1000 from by omega)) (cwV 1 hts (gV tw_3_2 tw_3_4 tw_p_1 tw_1_2 tw_3_5) rfl rfl rfl hdV_X9_byteAt ⟨Nat.le_of_ble_eq_true rfl, Nat.le_of_ble_eq_true rfl⟩) (cz_V hK hPc hDc hN (ci := 9) (q0 := 0) rfl rfl [.int L154f0x7]) rfl rfl hl.1 rfl (lv_room (Nat.le_of_ble_eq_true rfl)) dX9_advance_192 ⟨Nat.le_of_ble_eq_true rfl, Nat.le_of_ble_eq_true rfl⟩) hS (fun q _ h => hFc q h) hFc (fun r_32 uZ tZ H1 locs ht hvm hw hB hz1 hk1 hS => ?_)
              obtain ⟨hP1, hK1, hD1⟩ := hB
              rw [ht] at hP1
              obtain ⟨hP, hD⟩ := va_join (wr := []) (w1 := [(ob, .inr (9, [.int obv0, .int obv1, .int obv2, .ref obd, .ref ob_4, .int 2, .int L8f0x6, .int L154f0x7, .int L154f0x8])), (ob_4, .inl (k 1, 1000, .inl obg4))]) hP hD [0, 1] [] rfl rfl (by decide +kernel) (by decide +kernel) hk1 hFc hP1 hD1
              clear hK1 hP1 hD1 hPc hDc hFc
              clear hk1 hz1 ht hvm
              have hP : va_P D vwCl [(ob, .inr (9, [.int obv0, .int obv1, .int obv2, .ref obd, .ref ob_4, .int 2, .int L8f0x6, .int L154f0x7, .int L154f0x8])), (ob_4, .inl (k 1, 1000, .inl obg4))] H1 := hP
              have hD : va_D A [(ob, .inr (9, [.int obv0, .int obv1, .int obv2, .ref obd, .ref ob_4, .int 2, .int L8f0x6, .int L154f0x7, .int L154f0x8])), (ob_4, .inl (k 1, 1000, .inl obg4))] := hD
              generalize H1 = H at hP hS ⊢
              clear hw
              refine lv_iadd hx hb dX9_advance_195 ?_
              refine lv_topi (fun x_34 ex_34 => ?_)
              have zrx_31 := z_rng x_31
              have zrr_32 := z_rng r_32
              refine lv_bipush (v := 48) hx hb dX9_advance_196 (by decide) ?_
              refine lv_isub hx hb dX9_advance_198 ?_
              refine lv_topi (fun x_35 ex_35 => ?_)
              have zrx_34 := z_rng x_34
              refine lv_ldc (v := 1000000) hx hb hown (hts _ tw_3_15) dX9_advance_199 ?_
              obtain ⟨hPc, hDc, hFc⟩ := sub3 hP hD hS hA (ws' := []) [] (by decide +kernel) rfl
              refine va_calli (va_runS (As := [.int x_35, .int 1000000]) (rest := [.ref ob]) ⟨hx, hb, hml, hown, hts⟩ (c_J9_min_7cf53 l D k x_35 1000000 H.size) (va_cwS 2 hts (gS tw_3_16 tw_3_17 tw_1_14 tw_3_18) rfl rfl rfl hdS_J9_min_7cf53 ⟨Nat.le_of_ble_eq_true rfl, Nat.le_of_ble_eq_true rfl⟩) (cz_S hK hPc hDc hN [.int x_35, .int 1000000]) rfl rfl hl.1 rfl (lv_room (Nat.le_of_ble_eq_true rfl)) dX9_advance_201 ⟨Nat.le_of_ble_eq_true rfl, Nat.le_of_ble_eq_true rfl⟩) hS (fun q _ h => hFc q h) hFc (fun r_36 uZ tZ H1 locs ht hvm hw hB hz1 hk1 hS => ?_)
              obtain ⟨hP1, hK1, hD1⟩ := hB
              rw [ht] at hP1
              obtain ⟨hP, hD⟩ := va_join (wr := [(ob, .inr (9, [.int obv0, .int obv1, .int obv2, .ref obd, .ref ob_4, .int 2, .int L8f0x6, .int L154f0x7, .int L154f0x8])), (ob_4, .inl (k 1, 1000, .inl obg4))]) (w1 := []) hP hD [] [0, 1] rfl rfl (by decide +kernel) (by decide +kernel) hk1 hFc hP1 hD1
              clear hK1 hP1 hD1 hPc hDc hFc
              clear hk1 hz1 ht hvm
              have hP : va_P D vwCl [(ob, .inr (9, [.int obv0, .int obv1, .int obv2, .ref obd, .ref ob_4, .int 2, .int L8f0x6, .int L154f0x7, .int L154f0x8])), (ob_4, .inl (k 1, 1000, .inl obg4))] H1 := hP
              have hD : va_D A [(ob, .inr (9, [.int obv0, .int obv1, .int obv2, .ref obd, .ref ob_4, .int 2, .int L8f0x6, .int L154f0x7, .int L154f0x8])), (ob_4, .inl (k 1, 1000, .inl obg4))] := hD
              generalize H1 = H at hP hS ⊢
              have hw_37 : (r_36.toInt ≤ x_35.toInt ∧ r_36.toInt ≤ 1000000 ∧ (r_36.toInt = x_35.toInt ∨ r_36.toInt = 1000000)) := hw
              have hw_38 := hw_37
              clear hw
              refine va_put (D := D) (ci := 9) (v := .int r_36) (ty := tyX9 8) (C := RX9) (T := TX9) (N := 9) hx hb hts iT_X9 tyX9 tyX9_ok nmX9 hown hK hP hD hS 0 rfl rfl 8 (by decide) (hts _ tw_1_207) (fun _ h9 => h9) rfl (tyX9_ok 8 (by decide)) rfl rfl (Nat.le_of_ble_eq_true rfl) dX9_advance_204 (fun H locs hP hD hS => ?_)
              have hP : va_P D vwCl [(ob, .inr (9, [.int obv0, .int obv1, .int obv2, .ref obd, .ref ob_4, .int 2, .int L8f0x6, .int L154f0x7, .int r_36])), (ob_4, .inl (k 1, 1000, .inl obg4))] H := hP
              have hD : va_D A [(ob, .inr (9, [.int obv0, .int obv1, .int obv2, .ref obd, .ref ob_4, .int 2, .int L8f0x6, .int L154f0x7, .int r_36])), (ob_4, .inl (k 1, 1000, .inl obg4))] := hD
              refine lv_aload_n hx hb dX9_advance_207 rfl (lv_at hl 0 rfl) ?_
              refine lv_dup hx hb dX9_advance_208 rfl ?_
              refine va_get (D := D) (ci := 9) (v := .int L154f0x7) (C := RX9) (T := TX9) (N := 9) hx hb hts iT_X9 hown hK hP 0 rfl rfl 7 (by decide) (hts _ tw_1_206) (fun _ h9 => h9) rfl dX9_advance_209 ?_
              refine lv_iconst (v := 1) hx hb dX9_advance_212 (by decide) ?_
              refine lv_iadd hx hb dX9_advance_213 ?_
              refine lv_topi (fun x_39 ex_39 => ?_)
              have zx_39 : x_39.toInt = L154f0x7.toInt + 1 := by rw [ex_39]; exact z_add rfl rfl (by omega) (by omega)
              refine va_put (D := D) (ci := 9) (v := .int x_39) (ty := tyX9 7) (C := RX9) (T := TX9) (N := 9) hx hb hts iT_X9 tyX9 tyX9_ok nmX9 hown hK hP hD hS 0 rfl rfl 7 (by decide) (hts _ tw_1_206) (fun _ h9 => h9) rfl (tyX9_ok 7 (by decide)) rfl rfl (Nat.le_of_ble_eq_true rfl) dX9_advance_214 (fun H locs hP hD hS => ?_)
              have hP : va_P D vwCl [(ob, .inr (9, [.int obv0, .int obv1, .int obv2, .ref obd, .ref ob_4, .int 2, .int L8f0x6, .int x_39, .int r_36])), (ob_4, .inl (k 1, 1000, .inl obg4))] H := hP
              have hD : va_D A [(ob, .inr (9, [.int obv0, .int obv1, .int obv2, .ref obd, .ref ob_4, .int 2, .int L8f0x6, .int x_39, .int r_36])), (ob_4, .inl (k 1, 1000, .inl obg4))] := hD
              refine lv_goto (tgt := 154) hx hb dX9_advance_217 (by decide) ?_
              exact ih_22 _ _ _ _ (by omega) ⟨x_39, r_36, rfl, (show 0 ≤ x_39.toInt ∧ x_39.toInt ≤ 1000 from by omega), (show (-2147483648) ≤ r_36.toInt ∧ r_36.toInt ≤ 1000000 from by have := z_rng r_36; omega), hP.sub (ws' := [(ob, .inr (9, [.int obv0, .int obv1, .int obv2, .ref obd, .ref ob_4, .int 2, .int L8f0x6, .int x_39, .int r_36])), (ob_4, .inl (k 1, 1000, .inl obg4))]) [0, 1] rfl, hD.sub (ws' := [(ob, .inr (9, [.int obv0, .int obv1, .int obv2, .ref obd, .ref ob_4, .int 2, .int L8f0x6, .int x_39, .int r_36])), (ob_4, .inl (k 1, 1000, .inl obg4))]) [0, 1] (by decide +kernel) rfl, hS, lv_sub hl [0] rfl⟩
      · skip
        have zh_10 : ¬ r_7.toInt = 0 := z_ne h_10
        refine lv_aload_n hx hb dX9_advance_92 rfl (lv_at hl 0 rfl) ?_
        refine lv_iconst (v := 1) hx hb dX9_advance_93 (by decide) ?_
        refine va_put (D := D) (ci := 9) (v := .int 1) (ty := tyX9 5) (C := RX9) (T := TX9) (N := 9) hx hb hts iT_X9 tyX9 tyX9_ok nmX9 hown hK hP hD hS 0 rfl rfl 5 (by decide) (hts _ tw_1_204) (fun _ h9 => h9) rfl (tyX9_ok 5 (by decide)) rfl rfl (Nat.le_of_ble_eq_true rfl) dX9_advance_94 (fun H locs hP hD hS => ?_)
        have hP : va_P D vwCl [(ob, .inr (9, [.int obv0, .int obv1, .int obv2, .ref obd, .ref ob_4, .int 1, .int L8f0x6, .int L8f0x6, .int 0])), (ob_4, .inl (k 1, 1000, .inl obg4))] H := hP
        have hD : va_D A [(ob, .inr (9, [.int obv0, .int obv1, .int obv2, .ref obd, .ref ob_4, .int 1, .int L8f0x6, .int L8f0x6, .int 0])), (ob_4, .inl (k 1, 1000, .inl obg4))] := hD
        refine loop_r (Wg := fun H locs ls => W p l e _ s m _ below meth c H locs _ _ _ (F0 m 97 ls [])) (fun n9 H locs ls => ∃ (L97f0x7 : Int32), n9 = (1000 - L97f0x7.toInt).toNat ∧ (0 ≤ L97f0x7.toInt ∧ L97f0x7.toInt ≤ 1000) ∧ va_P D vwCl [(ob, .inr (9, [.int obv0, .int obv1, .int obv2, .ref obd, .ref ob_4, .int 1, .int L8f0x6, .int L97f0x7, .int 0])), (ob_4, .inl (k 1, 1000, .inl obg4))] H ∧ va_D A [(ob, .inr (9, [.int obv0, .int obv1, .int obv2, .ref obd, .ref ob_4, .int 1, .int L8f0x6, .int L97f0x7, .int 0])), (ob_4, .inl (k 1, 1000, .inl obg4))] ∧ va_S A s.heap H locs ∧ lv_has ls 1 [(0, .ref ob)]) (fun n9 H locs ls hI ih_40 => ?_) _ _ _ _ ⟨L8f0x6, rfl, (show 0 ≤ L8f0x6.toInt ∧ L8f0x6.toInt ≤ 1000 from by omega), hP.sub (ws' := [(ob, .inr (9, [.int obv0, .int obv1, .int obv2, .ref obd, .ref ob_4, .int 1, .int L8f0x6, .int L8f0x6, .int 0])), (ob_4, .inl (k 1, 1000, .inl obg4))]) [0, 1] rfl, hD.sub (ws' := [(ob, .inr (9, [.int obv0, .int obv1, .int obv2, .ref obd, .ref ob_4, .int 1, .int L8f0x6, .int L8f0x6, .int 0])), (ob_4, .inl (k 1, 1000, .inl obg4))]) [0, 1] (by decide +kernel) rfl, hS, lv_sub hl [0] rfl⟩
        clear hP hD hS hl
        obtain ⟨L97f0x7, en_41, zL97f0x7, hP, hD, hS, hl⟩ := hI
        refine lv_aload_n hx hb dX9_advance_97 rfl (lv_at hl 0 rfl) ?_
        refine va_get (D := D) (ci := 9) (v := .int L97f0x7) (C := RX9) (T := TX9) (N := 9) hx hb hts iT_X9 hown hK hP 0 rfl rfl 7 (by decide) (hts _ tw_1_206) (fun _ h9 => h9) rfl dX9_advance_98 ?_
        refine lv_aload_n hx hb dX9_advance_101 rfl (lv_at hl 0 rfl) ?_
        refine va_get (D := D) (ci := 9) (v := .int obv0) (C := RX9) (T := TX9) (N := 9) hx hb hts iT_X9 hown hK hP 0 rfl rfl 0 (by decide) (hts _ tw_1_195) (fun _ h9 => h9) rfl dX9_advance_102 ?_
        refine lv_icmp_ge (tgt := 252) hx hb dX9_advance_105 (by decide) (fun h_42 => ?_) (fun h_42 => ?_)
        · skip
          have zh_42 : obv0.toInt ≤ L97f0x7.toInt := z_le h_42
          obtain ⟨hP9, hD9⟩ := sub2 hP hD (ws' := [(ob, .inr (9, [.int obv0, .int obv1, .int obv2, .ref obd, .ref ob_4, .int 1, .int L8f0x6, .int L97f0x7, .int 0])), (ob_4, .inl (k 1, 1000, .inl obg4))]) [0, 1] (by decide +kernel) rfl
          exact W.vret hx hb hr (fun tZ ht hW => ⟨⟨(1, L8f0x6, L97f0x7, 0), rfl, ⟨(show 0 ≤ 1 ∧ 1 ≤ 4 from by omega), (show 0 ≤ L8f0x6.toInt ∧ L8f0x6.toInt ≤ 1000 from by omega), (show 0 ≤ L97f0x7.toInt ∧ L97f0x7.toInt ≤ 1000 from by omega), (show (-2147483648) ≤ 0 ∧ 0 ≤ 1000000 from by omega)⟩, by rw [ht]; exact hP9, va_K.moved hW.alike hK, hD9⟩, hS.F ht⟩) hS.2.2 dX9_advance_252
        · skip
          have zh_42 : L97f0x7.toInt < obv0.toInt := z_nle h_42
          refine lv_aload_n hx hb dX9_advance_108 rfl (lv_at hl 0 rfl) ?_
          refine lv_aload_n hx hb dX9_advance_109 rfl (lv_at hl 0 rfl) ?_
          refine va_get (D := D) (ci := 9) (v := .int L97f0x7) (C := RX9) (T := TX9) (N := 9) hx hb hts iT_X9 hown hK hP 0 rfl rfl 7 (by decide) (hts _ tw_1_206) (fun _ h9 => h9) rfl dX9_advance_110 ?_
          obtain ⟨hPc, hDc, hFc⟩ := sub3 hP hD hS hA (ws' := [(ob, .inr (9, [.int obv0, .int obv1, .int obv2, .ref obd, .ref ob_4, .int 1, .int L8f0x6, .int L97f0x7, .int 0])), (ob_4, .inl (k 1, 1000, .inl obg4))]) [0, 1] (by decide +kernel) rfl
          refine va_calli (va_runV (C := RX9) (As := [.int L97f0x7]) (rest := []) ⟨hx, hb, hml, hown, hts⟩ (c_X9_byteAt l D k ob L97f0x7 obv0 obv1 obv2 obd ob_4 1 L8f0x6 L97f0x7 0 obg4 H.size (show 0 ≤ obv0.toInt ∧ obv0.toInt ≤ 1000 from by omega)) (cwV 1 hts (gV tw_3_2 tw_3_4 tw_p_1 tw_1_2 tw_3_5) rfl rfl rfl hdV_X9_byteAt ⟨Nat.le_of_ble_eq_true rfl, Nat.le_of_ble_eq_true rfl⟩) (cz_V hK hPc hDc hN (ci := 9) (q0 := 0) rfl rfl [.int L97f0x7]) rfl rfl hl.1 rfl (lv_room (Nat.le_of_ble_eq_true rfl)) dX9_advance_113 ⟨Nat.le_of_ble_eq_true rfl, Nat.le_of_ble_eq_true rfl⟩) hS (fun q _ h => hFc q h) hFc (fun r_43 uZ tZ H1 locs ht hvm hw hB hz1 hk1 hS => ?_)
          obtain ⟨hP1, hK1, hD1⟩ := hB
          rw [ht] at hP1
          obtain ⟨hP, hD⟩ := va_join (wr := []) (w1 := [(ob, .inr (9, [.int obv0, .int obv1, .int obv2, .ref obd, .ref ob_4, .int 1, .int L8f0x6, .int L97f0x7, .int 0])), (ob_4, .inl (k 1, 1000, .inl obg4))]) hP hD [0, 1] [] rfl rfl (by decide +kernel) (by decide +kernel) hk1 hFc hP1 hD1
          clear hK1 hP1 hD1 hPc hDc hFc
          clear hk1 hz1 ht hvm
          have hP : va_P D vwCl [(ob, .inr (9, [.int obv0, .int obv1, .int obv2, .ref obd, .ref ob_4, .int 1, .int L8f0x6, .int L97f0x7, .int 0])), (ob_4, .inl (k 1, 1000, .inl obg4))] H1 := hP
          have hD : va_D A [(ob, .inr (9, [.int obv0, .int obv1, .int obv2, .ref obd, .ref ob_4, .int 1, .int L8f0x6, .int L97f0x7, .int 0])), (ob_4, .inl (k 1, 1000, .inl obg4))] := hD
          generalize H1 = H at hP hS ⊢
          clear hw
          obtain ⟨hPc, hDc, hFc⟩ := sub3 hP hD hS hA (ws' := []) [] (by decide +kernel) rfl
          refine va_calli (va_runS (As := [.int r_43]) (rest := []) ⟨hx, hb, hml, hown, hts⟩ (c_X9_isLetter l D k r_43 H.size) (va_cwS 1 hts (gS tw_3_9 tw_3_10 tw_1_2 tw_3_11) rfl rfl rfl hdS_X9_isLetter ⟨Nat.le_of_ble_eq_true rfl, Nat.le_of_ble_eq_true rfl⟩) (cz_S hK hPc hDc hN [.int r_43]) rfl rfl hl.1 rfl (lv_room (Nat.le_of_ble_eq_true rfl)) dX9_advance_116 ⟨Nat.le_of_ble_eq_true rfl, Nat.le_of_ble_eq_true rfl⟩) hS (fun q _ h => hFc q h) hFc (fun r_45 uZ tZ H1 locs ht hvm hw hB hz1 hk1 hS => ?_)
          obtain ⟨hP1, hK1, hD1⟩ := hB
          rw [ht] at hP1
          obtain ⟨hP, hD⟩ := va_join (wr := [(ob, .inr (9, [.int obv0, .int obv1, .int obv2, .ref obd, .ref ob_4, .int 1, .int L8f0x6, .int L97f0x7, .int 0])), (ob_4, .inl (k 1, 1000, .inl obg4))]) (w1 := []) hP hD [] [0, 1] rfl rfl (by decide +kernel) (by decide +kernel) hk1 hFc hP1 hD1
          clear hK1 hP1 hD1 hPc hDc hFc
          clear hk1 hz1 ht hvm
          have hP : va_P D vwCl [(ob, .inr (9, [.int obv0, .int obv1, .int obv2, .ref obd, .ref ob_4, .int 1, .int L8f0x6, .int L97f0x7, .int 0])), (ob_4, .inl (k 1, 1000, .inl obg4))] H1 := hP
          have hD : va_D A [(ob, .inr (9, [.int obv0, .int obv1, .int obv2, .ref obd, .ref ob_4, .int 1, .int L8f0x6, .int L97f0x7, .int 0])), (ob_4, .inl (k 1, 1000, .inl obg4))] := hD
          generalize H1 = H at hP hS ⊢
          have hw_46 : (0 ≤ r_45.toInt ∧ r_45.toInt ≤ 1) := hw
          have hw_47 := hw_46
          clear hw
          refine lv_if_eq (tgt := 252) hx hb dX9_advance_119 (by decide) (fun h_48 => ?_) (fun h_48 => ?_)
          · skip
            have zh_48 : r_45.toInt = 0 := z_eq h_48
            obtain ⟨hP9, hD9⟩ := sub2 hP hD (ws' := [(ob, .inr (9, [.int obv0, .int obv1, .int obv2, .ref obd, .ref ob_4, .int 1, .int L8f0x6, .int L97f0x7, .int 0])), (ob_4, .inl (k 1, 1000, .inl obg4))]) [0, 1] (by decide +kernel) rfl
            exact W.vret hx hb hr (fun tZ ht hW => ⟨⟨(1, L8f0x6, L97f0x7, 0), rfl, ⟨(show 0 ≤ 1 ∧ 1 ≤ 4 from by omega), (show 0 ≤ L8f0x6.toInt ∧ L8f0x6.toInt ≤ 1000 from by omega), (show 0 ≤ L97f0x7.toInt ∧ L97f0x7.toInt ≤ 1000 from by omega), (show (-2147483648) ≤ 0 ∧ 0 ≤ 1000000 from by omega)⟩, by rw [ht]; exact hP9, va_K.moved hW.alike hK, hD9⟩, hS.F ht⟩) hS.2.2 dX9_advance_252
          · skip
            have zh_48 : ¬ r_45.toInt = 0 := z_ne h_48
            refine lv_aload_n hx hb dX9_advance_122 rfl (lv_at hl 0 rfl) ?_
            refine lv_dup hx hb dX9_advance_123 rfl ?_
            refine va_get (D := D) (ci := 9) (v := .int L97f0x7) (C := RX9) (T := TX9) (N := 9) hx hb hts iT_X9 hown hK hP 0 rfl rfl 7 (by decide) (hts _ tw_1_206) (fun _ h9 => h9) rfl dX9_advance_124 ?_
            refine lv_iconst (v := 1) hx hb dX9_advance_127 (by decide) ?_
            refine lv_iadd hx hb dX9_advance_128 ?_
            refine lv_topi (fun x_49 ex_49 => ?_)
            have zx_49 : x_49.toInt = L97f0x7.toInt + 1 := by rw [ex_49]; exact z_add rfl rfl (by omega) (by omega)
            refine va_put (D := D) (ci := 9) (v := .int x_49) (ty := tyX9 7) (C := RX9) (T := TX9) (N := 9) hx hb hts iT_X9 tyX9 tyX9_ok nmX9 hown hK hP hD hS 0 rfl rfl 7 (by decide) (hts _ tw_1_206) (fun _ h9 => h9) rfl (tyX9_ok 7 (by decide)) rfl rfl (Nat.le_of_ble_eq_true rfl) dX9_advance_129 (fun H locs hP hD hS => ?_)
            have hP : va_P D vwCl [(ob, .inr (9, [.int obv0, .int obv1, .int obv2, .ref obd, .ref ob_4, .int 1, .int L8f0x6, .int x_49, .int 0])), (ob_4, .inl (k 1, 1000, .inl obg4))] H := hP
            have hD : va_D A [(ob, .inr (9, [.int obv0, .int obv1, .int obv2, .ref obd, .ref ob_4, .int 1, .int L8f0x6, .int x_49, .int 0])), (ob_4, .inl (k 1, 1000, .inl obg4))] := hD
            refine lv_goto (tgt := 97) hx hb dX9_advance_132 (by decide) ?_
            exact ih_40 _ _ _ _ (by omega) ⟨x_49, rfl, (show 0 ≤ x_49.toInt ∧ x_49.toInt ≤ 1000 from by omega), hP.sub (ws' := [(ob, .inr (9, [.int obv0, .int obv1, .int obv2, .ref obd, .ref ob_4, .int 1, .int L8f0x6, .int x_49, .int 0])), (ob_4, .inl (k 1, 1000, .inl obg4))]) [0, 1] rfl, hD.sub (ws' := [(ob, .inr (9, [.int obv0, .int obv1, .int obv2, .ref obd, .ref ob_4, .int 1, .int L8f0x6, .int x_49, .int 0])), (ob_4, .inl (k 1, 1000, .inl obg4))]) [0, 1] (by decide +kernel) rfl, hS, lv_sub hl [0] rfl⟩
    · skip
      have zh_4 : obv0.toInt ≤ L8f0x6.toInt := z_nlt h_4
      refine lv_aload_n hx hb dX9_advance_70 rfl (lv_at hl 0 rfl) ?_
      refine lv_iconst (v := 0) hx hb dX9_advance_71 (by decide) ?_
      refine va_put (D := D) (ci := 9) (v := .int 0) (ty := tyX9 5) (C := RX9) (T := TX9) (N := 9) hx hb hts iT_X9 tyX9 tyX9_ok nmX9 hown hK hP hD hS 0 rfl rfl 5 (by decide) (hts _ tw_1_204) (fun _ h9 => h9) rfl (tyX9_ok 5 (by decide)) rfl rfl (Nat.le_of_ble_eq_true rfl) dX9_advance_72 (fun H locs hP hD hS => ?_)
      have hP : va_P D vwCl [(ob, .inr (9, [.int obv0, .int obv1, .int obv2, .ref obd, .ref ob_4, .int 0, .int L8f0x6, .int L8f0x6, .int 0])), (ob_4, .inl (k 1, 1000, .inl obg4))] H := hP
      have hD : va_D A [(ob, .inr (9, [.int obv0, .int obv1, .int obv2, .ref obd, .ref ob_4, .int 0, .int L8f0x6, .int L8f0x6, .int 0])), (ob_4, .inl (k 1, 1000, .inl obg4))] := hD
      refine lv_goto (tgt := 252) hx hb dX9_advance_75 (by decide) ?_
      obtain ⟨hP9, hD9⟩ := sub2 hP hD (ws' := [(ob, .inr (9, [.int obv0, .int obv1, .int obv2, .ref obd, .ref ob_4, .int 0, .int L8f0x6, .int L8f0x6, .int 0])), (ob_4, .inl (k 1, 1000, .inl obg4))]) [0, 1] (by decide +kernel) rfl
      exact W.vret hx hb hr (fun tZ ht hW => ⟨⟨(0, L8f0x6, L8f0x6, 0), rfl, ⟨(show 0 ≤ 0 ∧ 0 ≤ 4 from by omega), (show 0 ≤ L8f0x6.toInt ∧ L8f0x6.toInt ≤ 1000 from by omega), (show 0 ≤ L8f0x6.toInt ∧ L8f0x6.toInt ≤ 1000 from by omega), (show (-2147483648) ≤ 0 ∧ 0 ≤ 1000000 from by omega)⟩, by rw [ht]; exact hP9, va_K.moved hW.alike hK, hD9⟩, hS.F ht⟩) hS.2.2 dX9_advance_252
  · skip
    have zh_3 : L8f0x6.toInt < obv0.toInt := z_nle h_3
    refine lv_aload_n hx hb dX9_advance_19 rfl (lv_at hl 0 rfl) ?_
    refine lv_aload_n hx hb dX9_advance_20 rfl (lv_at hl 0 rfl) ?_
    refine va_get (D := D) (ci := 9) (v := .int L8f0x6) (C := RX9) (T := TX9) (N := 9) hx hb hts iT_X9 hown hK hP 0 rfl rfl 6 (by decide) (hts _ tw_1_205) (fun _ h9 => h9) rfl dX9_advance_21 ?_
    obtain ⟨hPc, hDc, hFc⟩ := sub3 hP hD hS hA (ws' := [(ob, .inr (9, [.int obv0, .int obv1, .int obv2, .ref obd, .ref ob_4, .int obv5, .int L8f0x6, .int obv7, .int obv8])), (ob_4, .inl (k 1, 1000, .inl obg4))]) [0, 1] (by decide +kernel) rfl
    refine va_calli (va_runV (C := RX9) (As := [.int L8f0x6]) (rest := []) ⟨hx, hb, hml, hown, hts⟩ (c_X9_byteAt l D k ob L8f0x6 obv0 obv1 obv2 obd ob_4 obv5 L8f0x6 obv7 obv8 obg4 H.size (show 0 ≤ obv0.toInt ∧ obv0.toInt ≤ 1000 from by omega)) (cwV 1 hts (gV tw_3_2 tw_3_4 tw_p_1 tw_1_2 tw_3_5) rfl rfl rfl hdV_X9_byteAt ⟨Nat.le_of_ble_eq_true rfl, Nat.le_of_ble_eq_true rfl⟩) (cz_V hK hPc hDc hN (ci := 9) (q0 := 0) rfl rfl [.int L8f0x6]) rfl rfl hl.1 rfl (lv_room (Nat.le_of_ble_eq_true rfl)) dX9_advance_24 ⟨Nat.le_of_ble_eq_true rfl, Nat.le_of_ble_eq_true rfl⟩) hS (fun q _ h => hFc q h) hFc (fun r_50 uZ tZ H1 locs ht hvm hw hB hz1 hk1 hS => ?_)
    obtain ⟨hP1, hK1, hD1⟩ := hB
    rw [ht] at hP1
    obtain ⟨hP, hD⟩ := va_join (wr := []) (w1 := [(ob, .inr (9, [.int obv0, .int obv1, .int obv2, .ref obd, .ref ob_4, .int obv5, .int L8f0x6, .int obv7, .int obv8])), (ob_4, .inl (k 1, 1000, .inl obg4))]) hP hD [0, 1] [] rfl rfl (by decide +kernel) (by decide +kernel) hk1 hFc hP1 hD1
    clear hK1 hP1 hD1 hPc hDc hFc
    clear hk1 hz1 ht hvm
    have hP : va_P D vwCl [(ob, .inr (9, [.int obv0, .int obv1, .int obv2, .ref obd, .ref ob_4, .int obv5, .int L8f0x6, .int obv7, .int obv8])), (ob_4, .inl (k 1, 1000, .inl obg4))] H1 := hP
    have hD : va_D A [(ob, .inr (9, [.int obv0, .int obv1, .int obv2, .ref obd, .ref ob_4, .int obv5, .int L8f0x6, .int obv7, .int obv8])), (ob_4, .inl (k 1, 1000, .inl obg4))] := hD
    generalize H1 = H at hP hS ⊢
    clear hw
    obtain ⟨hPc, hDc, hFc⟩ := sub3 hP hD hS hA (ws' := []) [] (by decide +kernel) rfl
    refine va_calli (va_runS (As := [.int r_50]) (rest := []) ⟨hx, hb, hml, hown, hts⟩ (c_X9_isBlank l D k r_50 H.size) (va_cwS 1 hts (gS tw_3_6 tw_3_7 tw_1_2 tw_3_8) rfl rfl rfl hdS_X9_isBlank ⟨Nat.le_of_ble_eq_true rfl, Nat.le_of_ble_eq_true rfl⟩) (cz_S hK hPc hDc hN [.int r_50]) rfl rfl hl.1 rfl (lv_room (Nat.le_of_ble_eq_true rfl)) dX9_advance_27 ⟨Nat.le_of_ble_eq_true rfl, Nat.le_of_ble_eq_true rfl⟩) hS (fun q _ h => hFc q h) hFc (fun r_52 uZ tZ H1 locs ht hvm hw hB hz1 hk1 hS => ?_)
    obtain ⟨hP1, hK1, hD1⟩ := hB
    rw [ht] at hP1
    obtain ⟨hP, hD⟩ := va_join (wr := [(ob, .inr (9, [.int obv0, .int obv1, .int obv2, .ref obd, .ref ob_4, .int obv5, .int L8f0x6, .int obv7, .int obv8])), (ob_4, .inl (k 1, 1000, .inl obg4))]) (w1 := []) hP hD [] [0, 1] rfl rfl (by decide +kernel) (by decide +kernel) hk1 hFc hP1 hD1
    clear hK1 hP1 hD1 hPc hDc hFc
    clear hk1 hz1 ht hvm
    have hP : va_P D vwCl [(ob, .inr (9, [.int obv0, .int obv1, .int obv2, .ref obd, .ref ob_4, .int obv5, .int L8f0x6, .int obv7, .int obv8])), (ob_4, .inl (k 1, 1000, .inl obg4))] H1 := hP
    have hD : va_D A [(ob, .inr (9, [.int obv0, .int obv1, .int obv2, .ref obd, .ref ob_4, .int obv5, .int L8f0x6, .int obv7, .int obv8])), (ob_4, .inl (k 1, 1000, .inl obg4))] := hD
    generalize H1 = H at hP hS ⊢
    have hw_53 : (0 ≤ r_52.toInt ∧ r_52.toInt ≤ 1) := hw
    have hw_54 := hw_53
    clear hw
    refine lv_if_eq (tgt := 46) hx hb dX9_advance_30 (by decide) (fun h_55 => ?_) (fun h_55 => ?_)
    · skip
      have zh_55 : r_52.toInt = 0 := z_eq h_55
      refine lv_aload_n hx hb dX9_advance_46 rfl (lv_at hl 0 rfl) ?_
      refine lv_aload_n hx hb dX9_advance_47 rfl (lv_at hl 0 rfl) ?_
      refine va_get (D := D) (ci := 9) (v := .int L8f0x6) (C := RX9) (T := TX9) (N := 9) hx hb hts iT_X9 hown hK hP 0 rfl rfl 6 (by decide) (hts _ tw_1_205) (fun _ h9 => h9) rfl dX9_advance_48 ?_
      refine va_put (D := D) (ci := 9) (v := .int L8f0x6) (ty := tyX9 7) (C := RX9) (T := TX9) (N := 9) hx hb hts iT_X9 tyX9 tyX9_ok nmX9 hown hK hP hD hS 0 rfl rfl 7 (by decide) (hts _ tw_1_206) (fun _ h9 => h9) rfl (tyX9_ok 7 (by decide)) rfl rfl (Nat.le_of_ble_eq_true rfl) dX9_advance_51 (fun H locs hP hD hS => ?_)
      have hP : va_P D vwCl [(ob, .inr (9, [.int obv0, .int obv1, .int obv2, .ref obd, .ref ob_4, .int obv5, .int L8f0x6, .int L8f0x6, .int obv8])), (ob_4, .inl (k 1, 1000, .inl obg4))] H := hP
      have hD : va_D A [(ob, .inr (9, [.int obv0, .int obv1, .int obv2, .ref obd, .ref ob_4, .int obv5, .int L8f0x6, .int L8f0x6, .int obv8])), (ob_4, .inl (k 1, 1000, .inl obg4))] := hD
      refine lv_aload_n hx hb dX9_advance_54 rfl (lv_at hl 0 rfl) ?_
      refine lv_iconst (v := 0) hx hb dX9_advance_55 (by decide) ?_
      refine va_put (D := D) (ci := 9) (v := .int 0) (ty := tyX9 8) (C := RX9) (T := TX9) (N := 9) hx hb hts iT_X9 tyX9 tyX9_ok nmX9 hown hK hP hD hS 0 rfl rfl 8 (by decide) (hts _ tw_1_207) (fun _ h9 => h9) rfl (tyX9_ok 8 (by decide)) rfl rfl (Nat.le_of_ble_eq_true rfl) dX9_advance_56 (fun H locs hP hD hS => ?_)
      have hP : va_P D vwCl [(ob, .inr (9, [.int obv0, .int obv1, .int obv2, .ref obd, .ref ob_4, .int obv5, .int L8f0x6, .int L8f0x6, .int 0])), (ob_4, .inl (k 1, 1000, .inl obg4))] H := hP
      have hD : va_D A [(ob, .inr (9, [.int obv0, .int obv1, .int obv2, .ref obd, .ref ob_4, .int obv5, .int L8f0x6, .int L8f0x6, .int 0])), (ob_4, .inl (k 1, 1000, .inl obg4))] := hD
      refine lv_aload_n hx hb dX9_advance_59 rfl (lv_at hl 0 rfl) ?_
      refine va_get (D := D) (ci := 9) (v := .int L8f0x6) (C := RX9) (T := TX9) (N := 9) hx hb hts iT_X9 hown hK hP 0 rfl rfl 6 (by decide) (hts _ tw_1_205) (fun _ h9 => h9) rfl dX9_advance_60 ?_
      refine lv_aload_n hx hb dX9_advance_63 rfl (lv_at hl 0 rfl) ?_
      refine va_get (D := D) (ci := 9) (v := .int obv0) (C := RX9) (T := TX9) (N := 9) hx hb hts iT_X9 hown hK hP 0 rfl rfl 0 (by decide) (hts _ tw_1_195) (fun _ h9 => h9) rfl dX9_advance_64 ?_
      refine lv_icmp_lt (tgt := 78) hx hb dX9_advance_67 (by decide) (fun h_56 => ?_) (fun h_56 => ?_)
      · skip
        have zh_56 : L8f0x6.toInt < obv0.toInt := z_lt h_56
        refine lv_aload_n hx hb dX9_advance_78 rfl (lv_at hl 0 rfl) ?_
        refine lv_aload_n hx hb dX9_advance_79 rfl (lv_at hl 0 rfl) ?_
        refine va_get (D := D) (ci := 9) (v := .int L8f0x6) (C := RX9) (T := TX9) (N := 9) hx hb hts iT_X9 hown hK hP 0 rfl rfl 6 (by decide) (hts _ tw_1_205) (fun _ h9 => h9) rfl dX9_advance_80 ?_
        obtain ⟨hPc, hDc, hFc⟩ := sub3 hP hD hS hA (ws' := [(ob, .inr (9, [.int obv0, .int obv1, .int obv2, .ref obd, .ref ob_4, .int obv5, .int L8f0x6, .int L8f0x6, .int 0])), (ob_4, .inl (k 1, 1000, .inl obg4))]) [0, 1] (by decide +kernel) rfl
        refine va_calli (va_runV (C := RX9) (As := [.int L8f0x6]) (rest := []) ⟨hx, hb, hml, hown, hts⟩ (c_X9_byteAt l D k ob L8f0x6 obv0 obv1 obv2 obd ob_4 obv5 L8f0x6 L8f0x6 0 obg4 H.size (show 0 ≤ obv0.toInt ∧ obv0.toInt ≤ 1000 from by omega)) (cwV 1 hts (gV tw_3_2 tw_3_4 tw_p_1 tw_1_2 tw_3_5) rfl rfl rfl hdV_X9_byteAt ⟨Nat.le_of_ble_eq_true rfl, Nat.le_of_ble_eq_true rfl⟩) (cz_V hK hPc hDc hN (ci := 9) (q0 := 0) rfl rfl [.int L8f0x6]) rfl rfl hl.1 rfl (lv_room (Nat.le_of_ble_eq_true rfl)) dX9_advance_83 ⟨Nat.le_of_ble_eq_true rfl, Nat.le_of_ble_eq_true rfl⟩) hS (fun q _ h => hFc q h) hFc (fun r_57 uZ tZ H1 locs ht hvm hw hB hz1 hk1 hS => ?_)
        obtain ⟨hP1, hK1, hD1⟩ := hB
        rw [ht] at hP1
        obtain ⟨hP, hD⟩ := va_join (wr := []) (w1 := [(ob, .inr (9, [.int obv0, .int obv1, .int obv2, .ref obd, .ref ob_4, .int obv5, .int L8f0x6, .int L8f0x6, .int 0])), (ob_4, .inl (k 1, 1000, .inl obg4))]) hP hD [0, 1] [] rfl rfl (by decide +kernel) (by decide +kernel) hk1 hFc hP1 hD1
        clear hK1 hP1 hD1 hPc hDc hFc
        clear hk1 hz1 ht hvm
        have hP : va_P D vwCl [(ob, .inr (9, [.int obv0, .int obv1, .int obv2, .ref obd, .ref ob_4, .int obv5, .int L8f0x6, .int L8f0x6, .int 0])), (ob_4, .inl (k 1, 1000, .inl obg4))] H1 := hP
        have hD : va_D A [(ob, .inr (9, [.int obv0, .int obv1, .int obv2, .ref obd, .ref ob_4, .int obv5, .int L8f0x6, .int L8f0x6, .int 0])), (ob_4, .inl (k 1, 1000, .inl obg4))] := hD
        generalize H1 = H at hP hS ⊢
        clear hw
        obtain ⟨hPc, hDc, hFc⟩ := sub3 hP hD hS hA (ws' := []) [] (by decide +kernel) rfl
        refine va_calli (va_runS (As := [.int r_57]) (rest := []) ⟨hx, hb, hml, hown, hts⟩ (c_X9_isLetter l D k r_57 H.size) (va_cwS 1 hts (gS tw_3_9 tw_3_10 tw_1_2 tw_3_11) rfl rfl rfl hdS_X9_isLetter ⟨Nat.le_of_ble_eq_true rfl, Nat.le_of_ble_eq_true rfl⟩) (cz_S hK hPc hDc hN [.int r_57]) rfl rfl hl.1 rfl (lv_room (Nat.le_of_ble_eq_true rfl)) dX9_advance_86 ⟨Nat.le_of_ble_eq_true rfl, Nat.le_of_ble_eq_true rfl⟩) hS (fun q _ h => hFc q h) hFc (fun r_59 uZ tZ H1 locs ht hvm hw hB hz1 hk1 hS => ?_)
        obtain ⟨hP1, hK1, hD1⟩ := hB
        rw [ht] at hP1
        obtain ⟨hP, hD⟩ := va_join (wr := [(ob, .inr (9, [.int obv0, .int obv1, .int obv2, .ref obd, .ref ob_4, .int obv5, .int L8f0x6, .int L8f0x6, .int 0])), (ob_4, .inl (k 1, 1000, .inl obg4))]) (w1 := []) hP hD [] [0, 1] rfl rfl (by decide +kernel) (by decide +kernel) hk1 hFc hP1 hD1
        clear hK1 hP1 hD1 hPc hDc hFc
        clear hk1 hz1 ht hvm
        have hP : va_P D vwCl [(ob, .inr (9, [.int obv0, .int obv1, .int obv2, .ref obd, .ref ob_4, .int obv5, .int L8f0x6, .int L8f0x6, .int 0])), (ob_4, .inl (k 1, 1000, .inl obg4))] H1 := hP
        have hD : va_D A [(ob, .inr (9, [.int obv0, .int obv1, .int obv2, .ref obd, .ref ob_4, .int obv5, .int L8f0x6, .int L8f0x6, .int 0])), (ob_4, .inl (k 1, 1000, .inl obg4))] := hD
        generalize H1 = H at hP hS ⊢
        have hw_60 : (0 ≤ r_59.toInt ∧ r_59.toInt ≤ 1) := hw
        have hw_61 := hw_60
        clear hw
        refine lv_if_eq (tgt := 135) hx hb dX9_advance_89 (by decide) (fun h_62 => ?_) (fun h_62 => ?_)
        · skip
          have zh_62 : r_59.toInt = 0 := z_eq h_62
          refine lv_aload_n hx hb dX9_advance_135 rfl (lv_at hl 0 rfl) ?_
          refine lv_aload_n hx hb dX9_advance_136 rfl (lv_at hl 0 rfl) ?_
          refine va_get (D := D) (ci := 9) (v := .int L8f0x6) (C := RX9) (T := TX9) (N := 9) hx hb hts iT_X9 hown hK hP 0 rfl rfl 6 (by decide) (hts _ tw_1_205) (fun _ h9 => h9) rfl dX9_advance_137 ?_
          obtain ⟨hPc, hDc, hFc⟩ := sub3 hP hD hS hA (ws' := [(ob, .inr (9, [.int obv0, .int obv1, .int obv2, .ref obd, .ref ob_4, .int obv5, .int L8f0x6, .int L8f0x6, .int 0])), (ob_4, .inl (k 1, 1000, .inl obg4))]) [0, 1] (by decide +kernel) rfl
          refine va_calli (va_runV (C := RX9) (As := [.int L8f0x6]) (rest := []) ⟨hx, hb, hml, hown, hts⟩ (c_X9_byteAt l D k ob L8f0x6 obv0 obv1 obv2 obd ob_4 obv5 L8f0x6 L8f0x6 0 obg4 H.size (show 0 ≤ obv0.toInt ∧ obv0.toInt ≤ 1000 from by omega)) (cwV 1 hts (gV tw_3_2 tw_3_4 tw_p_1 tw_1_2 tw_3_5) rfl rfl rfl hdV_X9_byteAt ⟨Nat.le_of_ble_eq_true rfl, Nat.le_of_ble_eq_true rfl⟩) (cz_V hK hPc hDc hN (ci := 9) (q0 := 0) rfl rfl [.int L8f0x6]) rfl rfl hl.1 rfl (lv_room (Nat.le_of_ble_eq_true rfl)) dX9_advance_140 ⟨Nat.le_of_ble_eq_true rfl, Nat.le_of_ble_eq_true rfl⟩) hS (fun q _ h => hFc q h) hFc (fun r_63 uZ tZ H1 locs ht hvm hw hB hz1 hk1 hS => ?_)
          obtain ⟨hP1, hK1, hD1⟩ := hB
          rw [ht] at hP1
          obtain ⟨hP, hD⟩ := va_join (wr := []) (w1 := [(ob, .inr (9, [.int obv0, .int obv1, .int obv2, .ref obd, .ref ob_4, .int obv5, .int L8f0x6, .int L8f0x6, .int 0])), (ob_4, .inl (k 1, 1000, .inl obg4))]) hP hD [0, 1] [] rfl rfl (by decide +kernel) (by decide +kernel) hk1 hFc hP1 hD1
          clear hK1 hP1 hD1 hPc hDc hFc
          clear hk1 hz1 ht hvm
          have hP : va_P D vwCl [(ob, .inr (9, [.int obv0, .int obv1, .int obv2, .ref obd, .ref ob_4, .int obv5, .int L8f0x6, .int L8f0x6, .int 0])), (ob_4, .inl (k 1, 1000, .inl obg4))] H1 := hP
          have hD : va_D A [(ob, .inr (9, [.int obv0, .int obv1, .int obv2, .ref obd, .ref ob_4, .int obv5, .int L8f0x6, .int L8f0x6, .int 0])), (ob_4, .inl (k 1, 1000, .inl obg4))] := hD
          generalize H1 = H at hP hS ⊢
          clear hw
          obtain ⟨hPc, hDc, hFc⟩ := sub3 hP hD hS hA (ws' := []) [] (by decide +kernel) rfl
          refine va_calli (va_runS (As := [.int r_63]) (rest := []) ⟨hx, hb, hml, hown, hts⟩ (c_X9_isDigit l D k r_63 H.size) (va_cwS 1 hts (gS tw_3_12 tw_3_13 tw_1_2 tw_3_14) rfl rfl rfl hdS_X9_isDigit ⟨Nat.le_of_ble_eq_true rfl, Nat.le_of_ble_eq_true rfl⟩) (cz_S hK hPc hDc hN [.int r_63]) rfl rfl hl.1 rfl (lv_room (Nat.le_of_ble_eq_true rfl)) dX9_advance_143 ⟨Nat.le_of_ble_eq_true rfl, Nat.le_of_ble_eq_true rfl⟩) hS (fun q _ h => hFc q h) hFc (fun r_65 uZ tZ H1 locs ht hvm hw hB hz1 hk1 hS => ?_)
          obtain ⟨hP1, hK1, hD1⟩ := hB
          rw [ht] at hP1
          obtain ⟨hP, hD⟩ := va_join (wr := [(ob, .inr (9, [.int obv0, .int obv1, .int obv2, .ref obd, .ref ob_4, .int obv5, .int L8f0x6, .int L8f0x6, .int 0])), (ob_4, .inl (k 1, 1000, .inl obg4))]) (w1 := []) hP hD [] [0, 1] rfl rfl (by decide +kernel) (by decide +kernel) hk1 hFc hP1 hD1
          clear hK1 hP1 hD1 hPc hDc hFc
          clear hk1 hz1 ht hvm
          have hP : va_P D vwCl [(ob, .inr (9, [.int obv0, .int obv1, .int obv2, .ref obd, .ref ob_4, .int obv5, .int L8f0x6, .int L8f0x6, .int 0])), (ob_4, .inl (k 1, 1000, .inl obg4))] H1 := hP
          have hD : va_D A [(ob, .inr (9, [.int obv0, .int obv1, .int obv2, .ref obd, .ref ob_4, .int obv5, .int L8f0x6, .int L8f0x6, .int 0])), (ob_4, .inl (k 1, 1000, .inl obg4))] := hD
          generalize H1 = H at hP hS ⊢
          have hw_66 : (0 ≤ r_65.toInt ∧ r_65.toInt ≤ 1) := hw
          have hw_67 := hw_66
          clear hw
          refine lv_if_eq (tgt := 220) hx hb dX9_advance_146 (by decide) (fun h_68 => ?_) (fun h_68 => ?_)
          · skip
            have zh_68 : r_65.toInt = 0 := z_eq h_68
            refine lv_aload_n hx hb dX9_advance_220 rfl (lv_at hl 0 rfl) ?_
            refine lv_aload_n hx hb dX9_advance_221 rfl (lv_at hl 0 rfl) ?_
            refine lv_aload_n hx hb dX9_advance_222 rfl (lv_at hl 0 rfl) ?_
            refine va_get (D := D) (ci := 9) (v := .int L8f0x6) (C := RX9) (T := TX9) (N := 9) hx hb hts iT_X9 hown hK hP 0 rfl rfl 6 (by decide) (hts _ tw_1_205) (fun _ h9 => h9) rfl dX9_advance_223 ?_
            obtain ⟨hPc, hDc, hFc⟩ := sub3 hP hD hS hA (ws' := [(ob, .inr (9, [.int obv0, .int obv1, .int obv2, .ref obd, .ref ob_4, .int obv5, .int L8f0x6, .int L8f0x6, .int 0])), (ob_4, .inl (k 1, 1000, .inl obg4))]) [0, 1] (by decide +kernel) rfl
            refine va_calli (va_runV (C := RX9) (As := [.int L8f0x6]) (rest := [.ref ob]) ⟨hx, hb, hml, hown, hts⟩ (c_X9_byteAt l D k ob L8f0x6 obv0 obv1 obv2 obd ob_4 obv5 L8f0x6 L8f0x6 0 obg4 H.size (show 0 ≤ obv0.toInt ∧ obv0.toInt ≤ 1000 from by omega)) (cwV 1 hts (gV tw_3_2 tw_3_4 tw_p_1 tw_1_2 tw_3_5) rfl rfl rfl hdV_X9_byteAt ⟨Nat.le_of_ble_eq_true rfl, Nat.le_of_ble_eq_true rfl⟩) (cz_V hK hPc hDc hN (ci := 9) (q0 := 0) rfl rfl [.int L8f0x6]) rfl rfl hl.1 rfl (lv_room (Nat.le_of_ble_eq_true rfl)) dX9_advance_226 ⟨Nat.le_of_ble_eq_true rfl, Nat.le_of_ble_eq_true rfl⟩) hS (fun q _ h => hFc q h) hFc (fun r_69 uZ tZ H1 locs ht hvm hw hB hz1 hk1 hS => ?_)
            obtain ⟨hP1, hK1, hD1⟩ := hB
            rw [ht] at hP1
            obtain ⟨hP, hD⟩ := va_join (wr := []) (w1 := [(ob, .inr (9, [.int obv0, .int obv1, .int obv2, .ref obd, .ref ob_4, .int obv5, .int L8f0x6, .int L8f0x6, .int 0])), (ob_4, .inl (k 1, 1000, .inl obg4))]) hP hD [0, 1] [] rfl rfl (by decide +kernel) (by decide +kernel) hk1 hFc hP1 hD1
            clear hK1 hP1 hD1 hPc hDc hFc
            clear hk1 hz1 ht hvm
            have hP : va_P D vwCl [(ob, .inr (9, [.int obv0, .int obv1, .int obv2, .ref obd, .ref ob_4, .int obv5, .int L8f0x6, .int L8f0x6, .int 0])), (ob_4, .inl (k 1, 1000, .inl obg4))] H1 := hP
            have hD : va_D A [(ob, .inr (9, [.int obv0, .int obv1, .int obv2, .ref obd, .ref ob_4, .int obv5, .int L8f0x6, .int L8f0x6, .int 0])), (ob_4, .inl (k 1, 1000, .inl obg4))] := hD
            generalize H1 = H at hP hS ⊢
            clear hw
            refine lv_bipush (v := 59) hx hb dX9_advance_229 (by decide) ?_
            refine lv_icmp_ne (tgt := 238) hx hb dX9_advance_231 (by decide) (fun h_71 => ?_) (fun h_71 => ?_)
            · skip
              have zh_71 : ¬ r_69.toInt = 59 := z_ne h_71
              refine lv_iconst (v := 4) hx hb dX9_advance_238 (by decide) ?_
              refine va_put (D := D) (ci := 9) (v := .int 4) (ty := tyX9 5) (C := RX9) (T := TX9) (N := 9) hx hb hts iT_X9 tyX9 tyX9_ok nmX9 hown hK hP hD hS 0 rfl rfl 5 (by decide) (hts _ tw_1_204) (fun _ h9 => h9) rfl (tyX9_ok 5 (by decide)) rfl rfl (Nat.le_of_ble_eq_true rfl) dX9_advance_239 (fun H locs hP hD hS => ?_)
              have hP : va_P D vwCl [(ob, .inr (9, [.int obv0, .int obv1, .int obv2, .ref obd, .ref ob_4, .int 4, .int L8f0x6, .int L8f0x6, .int 0])), (ob_4, .inl (k 1, 1000, .inl obg4))] H := hP
              have hD : va_D A [(ob, .inr (9, [.int obv0, .int obv1, .int obv2, .ref obd, .ref ob_4, .int 4, .int L8f0x6, .int L8f0x6, .int 0])), (ob_4, .inl (k 1, 1000, .inl obg4))] := hD
              refine lv_aload_n hx hb dX9_advance_242 rfl (lv_at hl 0 rfl) ?_
              refine lv_aload_n hx hb dX9_advance_243 rfl (lv_at hl 0 rfl) ?_
              refine va_get (D := D) (ci := 9) (v := .int L8f0x6) (C := RX9) (T := TX9) (N := 9) hx hb hts iT_X9 hown hK hP 0 rfl rfl 6 (by decide) (hts _ tw_1_205) (fun _ h9 => h9) rfl dX9_advance_244 ?_
              refine lv_iconst (v := 1) hx hb dX9_advance_247 (by decide) ?_
              refine lv_iadd hx hb dX9_advance_248 ?_
              refine lv_topi (fun x_72 ex_72 => ?_)
              have zx_72 : x_72.toInt = L8f0x6.toInt + 1 := by rw [ex_72]; exact z_add rfl rfl (by omega) (by omega)
              refine va_put (D := D) (ci := 9) (v := .int x_72) (ty := tyX9 7) (C := RX9) (T := TX9) (N := 9) hx hb hts iT_X9 tyX9 tyX9_ok nmX9 hown hK hP hD hS 0 rfl rfl 7 (by decide) (hts _ tw_1_206) (fun _ h9 => h9) rfl (tyX9_ok 7 (by decide)) rfl rfl (Nat.le_of_ble_eq_true rfl) dX9_advance_249 (fun H locs hP hD hS => ?_)
              have hP : va_P D vwCl [(ob, .inr (9, [.int obv0, .int obv1, .int obv2, .ref obd, .ref ob_4, .int 4, .int L8f0x6, .int x_72, .int 0])), (ob_4, .inl (k 1, 1000, .inl obg4))] H := hP
              have hD : va_D A [(ob, .inr (9, [.int obv0, .int obv1, .int obv2, .ref obd, .ref ob_4, .int 4, .int L8f0x6, .int x_72, .int 0])), (ob_4, .inl (k 1, 1000, .inl obg4))] := hD
              obtain ⟨hP9, hD9⟩ := sub2 hP hD (ws' := [(ob, .inr (9, [.int obv0, .int obv1, .int obv2, .ref obd, .ref ob_4, .int 4, .int L8f0x6, .int x_72, .int 0])), (ob_4, .inl (k 1, 1000, .inl obg4))]) [0, 1] (by decide +kernel) rfl
              exact W.vret hx hb hr (fun tZ ht hW => ⟨⟨(4, L8f0x6, x_72, 0), rfl, ⟨(show 0 ≤ 4 ∧ 4 ≤ 4 from by omega), (show 0 ≤ L8f0x6.toInt ∧ L8f0x6.toInt ≤ 1000 from by omega), (show 0 ≤ x_72.toInt ∧ x_72.toInt ≤ 1000 from by omega), (show (-2147483648) ≤ 0 ∧ 0 ≤ 1000000 from by omega)⟩, by rw [ht]; exact hP9, va_K.moved hW.alike hK, hD9⟩, hS.F ht⟩) hS.2.2 dX9_advance_252
            · skip
              have zh_71 : r_69.toInt = 59 := z_eq h_71
              refine lv_iconst (v := 3) hx hb dX9_advance_234 (by decide) ?_
              refine lv_goto (tgt := 239) hx hb dX9_advance_235 (by decide) ?_
              refine va_put (D := D) (ci := 9) (v := .int 3) (ty := tyX9 5) (C := RX9) (T := TX9) (N := 9) hx hb hts iT_X9 tyX9 tyX9_ok nmX9 hown hK hP hD hS 0 rfl rfl 5 (by decide) (hts _ tw_1_204) (fun _ h9 => h9) rfl (tyX9_ok 5 (by decide)) rfl rfl (Nat.le_of_ble_eq_true rfl) dX9_advance_239 (fun H locs hP hD hS => ?_)
              have hP : va_P D vwCl [(ob, .inr (9, [.int obv0, .int obv1, .int obv2, .ref obd, .ref ob_4, .int 3, .int L8f0x6, .int L8f0x6, .int 0])), (ob_4, .inl (k 1, 1000, .inl obg4))] H := hP
              have hD : va_D A [(ob, .inr (9, [.int obv0, .int obv1, .int obv2, .ref obd, .ref ob_4, .int 3, .int L8f0x6, .int L8f0x6, .int 0])), (ob_4, .inl (k 1, 1000, .inl obg4))] := hD
              refine lv_aload_n hx hb dX9_advance_242 rfl (lv_at hl 0 rfl) ?_
              refine lv_aload_n hx hb dX9_advance_243 rfl (lv_at hl 0 rfl) ?_
              refine va_get (D := D) (ci := 9) (v := .int L8f0x6) (C := RX9) (T := TX9) (N := 9) hx hb hts iT_X9 hown hK hP 0 rfl rfl 6 (by decide) (hts _ tw_1_205) (fun _ h9 => h9) rfl dX9_advance_244 ?_
              refine lv_iconst (v := 1) hx hb dX9_advance_247 (by decide) ?_
              refine lv_iadd hx hb dX9_advance_248 ?_
              refine lv_topi (fun x_73 ex_73 => ?_)
              have zx_73 : x_73.toInt = L8f0x6.toInt + 1 := by rw [ex_73]; exact z_add rfl rfl (by omega) (by omega)
              refine va_put (D := D) (ci := 9) (v := .int x_73) (ty := tyX9 7) (C := RX9) (T := TX9) (N := 9) hx hb hts iT_X9 tyX9 tyX9_ok nmX9 hown hK hP hD hS 0 rfl rfl 7 (by decide) (hts _ tw_1_206) (fun _ h9 => h9) rfl (tyX9_ok 7 (by decide)) rfl rfl (Nat.le_of_ble_eq_true rfl) dX9_advance_249 (fun H locs hP hD hS => ?_)
              have hP : va_P D vwCl [(ob, .inr (9, [.int obv0, .int obv1, .int obv2, .ref obd, .ref ob_4, .int 3, .int L8f0x6, .int x_73, .int 0])), (ob_4, .inl (k 1, 1000, .inl obg4))] H := hP
              have hD : va_D A [(ob, .inr (9, [.int obv0, .int obv1, .int obv2, .ref obd, .ref ob_4, .int 3, .int L8f0x6, .int x_73, .int 0])), (ob_4, .inl (k 1, 1000, .inl obg4))] := hD
              obtain ⟨hP9, hD9⟩ := sub2 hP hD (ws' := [(ob, .inr (9, [.int obv0, .int obv1, .int obv2, .ref obd, .ref ob_4, .int 3, .int L8f0x6, .int x_73, .int 0])), (ob_4, .inl (k 1, 1000, .inl obg4))]) [0, 1] (by decide +kernel) rfl
              exact W.vret hx hb hr (fun tZ ht hW => ⟨⟨(3, L8f0x6, x_73, 0), rfl, ⟨(show 0 ≤ 3 ∧ 3 ≤ 4 from by omega), (show 0 ≤ L8f0x6.toInt ∧ L8f0x6.toInt ≤ 1000 from by omega), (show 0 ≤ x_73.toInt ∧ x_73.toInt ≤ 1000 from by omega), (show (-2147483648) ≤ 0 ∧ 0 ≤ 1000000 from by omega)⟩, by rw [ht]; exact hP9, va_K.moved hW.alike hK, hD9⟩, hS.F ht⟩) hS.2.2 dX9_advance_252
          · skip
            have zh_68 : ¬ r_65.toInt = 0 := z_ne h_68
            refine lv_aload_n hx hb dX9_advance_149 rfl (lv_at hl 0 rfl) ?_
            refine lv_iconst (v := 2) hx hb dX9_advance_150 (by decide) ?_
            refine va_put (D := D) (ci := 9) (v := .int 2) (ty := tyX9 5) (C := RX9) (T := TX9) (N := 9) hx hb hts iT_X9 tyX9 tyX9_ok nmX9 hown hK hP hD hS 0 rfl rfl 5 (by decide) (hts _ tw_1_204) (fun _ h9 => h9) rfl (tyX9_ok 5 (by decide)) rfl rfl (Nat.le_of_ble_eq_true rfl) dX9_advance_151 (fun H locs hP hD hS => ?_)
            have hP : va_P D vwCl [(ob, .inr (9, [.int obv0, .int obv1, .int obv2, .ref obd, .ref ob_4, .int 2, .int L8f0x6, .int L8f0x6, .int 0])), (ob_4, .inl (k 1, 1000, .inl obg4))] H := hP
            have hD : va_D A [(ob, .inr (9, [.int obv0, .int obv1, .int obv2, .ref obd, .ref ob_4, .int 2, .int L8f0x6, .int L8f0x6, .int 0])), (ob_4, .inl (k 1, 1000, .inl obg4))] := hD
            refine loop_r (Wg := fun H locs ls => W p l e _ s m _ below meth c H locs _ _ _ (F0 m 154 ls [])) (fun n9 H locs ls => ∃ (L154f0x7 : Int32) (L154f0x8 : Int32), n9 = (1000 - L154f0x7.toInt).toNat ∧ (0 ≤ L154f0x7.toInt ∧ L154f0x7.toInt ≤ 1000) ∧ ((-2147483648) ≤ L154f0x8.toInt ∧ L154f0x8.toInt ≤ 1000000) ∧ va_P D vwCl [(ob, .inr (9, [.int obv0, .int obv1, .int obv2, .ref obd, .ref ob_4, .int 2, .int L8f0x6, .int L154f0x7, .int L154f0x8])), (ob_4, .inl (k 1, 1000, .inl obg4))] H ∧ va_D A [(ob, .inr (9, [.int obv0, .int obv1, .int obv2, .ref obd, .ref ob_4, .int 2, .int L8f0x6, .int L154f0x7, .int L154f0x8])), (ob_4, .inl (k 1, 1000, .inl obg4))] ∧ va_S A s.heap H locs ∧ lv_has ls 1 [(0, .ref ob)]) (fun n9 H locs ls hI ih_74 => ?_) _ _ _ _ ⟨L8f0x6, 0, rfl, (show 0 ≤ L8f0x6.toInt ∧ L8f0x6.toInt ≤ 1000 from by omega), (show (-2147483648) ≤ 0 ∧ 0 ≤ 1000000 from by omega), hP.sub (ws' := [(ob, .inr (9, [.int obv0, .int obv1, .int obv2, .ref obd, .ref ob_4, .int 2, .int L8f0x6, .int L8f0x6, .int 0])), (ob_4, .inl (k 1, 1000, .inl obg4))]) [0, 1] rfl, hD.sub (ws' := [(ob, .inr (9, [.int obv0, .int obv1, .int obv2, .ref obd, .ref ob_4, .int 2, .int L8f0x6, .int L8f0x6, .int 0])), (ob_4, .inl (k 1, 1000, .inl obg4))]) [0, 1] (by decide +kernel) rfl, hS, lv_sub hl [0] rfl⟩
            clear hP hD hS hl
            obtain ⟨L154f0x7, L154f0x8, en_75, zL154f0x7, zL154f0x8, hP, hD, hS, hl⟩ := hI
            refine lv_aload_n hx hb dX9_advance_154 rfl (lv_at hl 0 rfl) ?_
            refine va_get (D := D) (ci := 9) (v := .int L154f0x7) (C := RX9) (T := TX9) (N := 9) hx hb hts iT_X9 hown hK hP 0 rfl rfl 7 (by decide) (hts _ tw_1_206) (fun _ h9 => h9) rfl dX9_advance_155 ?_
            refine lv_aload_n hx hb dX9_advance_158 rfl (lv_at hl 0 rfl) ?_
            refine va_get (D := D) (ci := 9) (v := .int obv0) (C := RX9) (T := TX9) (N := 9) hx hb hts iT_X9 hown hK hP 0 rfl rfl 0 (by decide) (hts _ tw_1_195) (fun _ h9 => h9) rfl dX9_advance_159 ?_
            refine lv_icmp_ge (tgt := 252) hx hb dX9_advance_162 (by decide) (fun h_76 => ?_) (fun h_76 => ?_)
            · skip
              have zh_76 : obv0.toInt ≤ L154f0x7.toInt := z_le h_76
              obtain ⟨hP9, hD9⟩ := sub2 hP hD (ws' := [(ob, .inr (9, [.int obv0, .int obv1, .int obv2, .ref obd, .ref ob_4, .int 2, .int L8f0x6, .int L154f0x7, .int L154f0x8])), (ob_4, .inl (k 1, 1000, .inl obg4))]) [0, 1] (by decide +kernel) rfl
              exact W.vret hx hb hr (fun tZ ht hW => ⟨⟨(2, L8f0x6, L154f0x7, L154f0x8), rfl, ⟨(show 0 ≤ 2 ∧ 2 ≤ 4 from by omega), (show 0 ≤ L8f0x6.toInt ∧ L8f0x6.toInt ≤ 1000 from by omega), (show 0 ≤ L154f0x7.toInt ∧ L154f0x7.toInt ≤ 1000 from by omega), (show (-2147483648) ≤ L154f0x8.toInt ∧ L154f0x8.toInt ≤ 1000000 from by have := z_rng L154f0x8; omega)⟩, by rw [ht]; exact hP9, va_K.moved hW.alike hK, hD9⟩, hS.F ht⟩) hS.2.2 dX9_advance_252
            · skip
              have zh_76 : L154f0x7.toInt < obv0.toInt := z_nle h_76
              refine lv_aload_n hx hb dX9_advance_165 rfl (lv_at hl 0 rfl) ?_
              refine lv_aload_n hx hb dX9_advance_166 rfl (lv_at hl 0 rfl) ?_
              refine va_get (D := D) (ci := 9) (v := .int L154f0x7) (C := RX9) (T := TX9) (N := 9) hx hb hts iT_X9 hown hK hP 0 rfl rfl 7 (by decide) (hts _ tw_1_206) (fun _ h9 => h9) rfl dX9_advance_167 ?_
              obtain ⟨hPc, hDc, hFc⟩ := sub3 hP hD hS hA (ws' := [(ob, .inr (9, [.int obv0, .int obv1, .int obv2, .ref obd, .ref ob_4, .int 2, .int L8f0x6, .int L154f0x7, .int L154f0x8])), (ob_4, .inl (k 1, 1000, .inl obg4))]) [0, 1] (by decide +kernel) rfl
              refine va_calli (va_runV (C := RX9) (As := [.int L154f0x7]) (rest := []) ⟨hx, hb, hml, hown, hts⟩ (c_X9_byteAt l D k ob L154f0x7 obv0 obv1 obv2 obd ob_4 2 L8f0x6 L154f0x7 L154f0x8 obg4 H.size (show 0 ≤ obv0.toInt ∧ obv0.toInt ≤ 1000 from by omega)) (cwV 1 hts (gV tw_3_2 tw_3_4 tw_p_1 tw_1_2 tw_3_5) rfl rfl rfl hdV_X9_byteAt ⟨Nat.le_of_ble_eq_true rfl, Nat.le_of_ble_eq_true rfl⟩) (cz_V hK hPc hDc hN (ci := 9) (q0 := 0) rfl rfl [.int L154f0x7]) rfl rfl hl.1 rfl (lv_room (Nat.le_of_ble_eq_true rfl)) dX9_advance_170 ⟨Nat.le_of_ble_eq_true rfl, Nat.le_of_ble_eq_true rfl⟩) hS (fun q _ h => hFc q h) hFc (fun r_77 uZ tZ H1 locs ht hvm hw hB hz1 hk1 hS => ?_)
              obtain ⟨hP1, hK1, hD1⟩ := hB
              rw [ht] at hP1
              obtain ⟨hP, hD⟩ := va_join (wr := []) (w1 := [(ob, .inr (9, [.int obv0, .int obv1, .int obv2, .ref obd, .ref ob_4, .int 2, .int L8f0x6, .int L154f0x7, .int L154f0x8])), (ob_4, .inl (k 1, 1000, .inl obg4))]) hP hD [0, 1] [] rfl rfl (by decide +kernel) (by decide +kernel) hk1 hFc hP1 hD1
              clear hK1 hP1 hD1 hPc hDc hFc
              clear hk1 hz1 ht hvm
              have hP : va_P D vwCl [(ob, .inr (9, [.int obv0, .int obv1, .int obv2, .ref obd, .ref ob_4, .int 2, .int L8f0x6, .int L154f0x7, .int L154f0x8])), (ob_4, .inl (k 1, 1000, .inl obg4))] H1 := hP
              have hD : va_D A [(ob, .inr (9, [.int obv0, .int obv1, .int obv2, .ref obd, .ref ob_4, .int 2, .int L8f0x6, .int L154f0x7, .int L154f0x8])), (ob_4, .inl (k 1, 1000, .inl obg4))] := hD
              generalize H1 = H at hP hS ⊢
              clear hw
              obtain ⟨hPc, hDc, hFc⟩ := sub3 hP hD hS hA (ws' := []) [] (by decide +kernel) rfl
              refine va_calli (va_runS (As := [.int r_77]) (rest := []) ⟨hx, hb, hml, hown, hts⟩ (c_X9_isDigit l D k r_77 H.size) (va_cwS 1 hts (gS tw_3_12 tw_3_13 tw_1_2 tw_3_14) rfl rfl rfl hdS_X9_isDigit ⟨Nat.le_of_ble_eq_true rfl, Nat.le_of_ble_eq_true rfl⟩) (cz_S hK hPc hDc hN [.int r_77]) rfl rfl hl.1 rfl (lv_room (Nat.le_of_ble_eq_true rfl)) dX9_advance_173 ⟨Nat.le_of_ble_eq_true rfl, Nat.le_of_ble_eq_true rfl⟩) hS (fun q _ h => hFc q h) hFc (fun r_79 uZ tZ H1 locs ht hvm hw hB hz1 hk1 hS => ?_)
              obtain ⟨hP1, hK1, hD1⟩ := hB
              rw [ht] at hP1
              obtain ⟨hP, hD⟩ := va_join (wr := [(ob, .inr (9, [.int obv0, .int obv1, .int obv2, .ref obd, .ref ob_4, .int 2, .int L8f0x6, .int L154f0x7, .int L154f0x8])), (ob_4, .inl (k 1, 1000, .inl obg4))]) (w1 := []) hP hD [] [0, 1] rfl rfl (by decide +kernel) (by decide +kernel) hk1 hFc hP1 hD1
              clear hK1 hP1 hD1 hPc hDc hFc
              clear hk1 hz1 ht hvm
              have hP : va_P D vwCl [(ob, .inr (9, [.int obv0, .int obv1, .int obv2, .ref obd, .ref ob_4, .int 2, .int L8f0x6, .int L154f0x7, .int L154f0x8])), (ob_4, .inl (k 1, 1000, .inl obg4))] H1 := hP
              have hD : va_D A [(ob, .inr (9, [.int obv0, .int obv1, .int obv2, .ref obd, .ref ob_4, .int 2, .int L8f0x6, .int L154f0x7, .int L154f0x8])), (ob_4, .inl (k 1, 1000, .inl obg4))] := hD
              generalize H1 = H at hP hS ⊢
              have hw_80 : (0 ≤ r_79.toInt ∧ r_79.toInt ≤ 1) := hw
              have hw_81 := hw_80
              clear hw
              refine lv_if_eq (tgt := 252) hx hb dX9_advance_176 (by decide) (fun h_82 => ?_) (fun h_82 => ?_)
              · skip
                have zh_82 : r_79.toInt = 0 := z_eq h_82
                obtain ⟨hP9, hD9⟩ := sub2 hP hD (ws' := [(ob, .inr (9, [.int obv0, .int obv1, .int obv2, .ref obd, .ref ob_4, .int 2, .int L8f0x6, .int L154f0x7, .int L154f0x8])), (ob_4, .inl (k 1, 1000, .inl obg4))]) [0, 1] (by decide +kernel) rfl
                exact W.vret hx hb hr (fun tZ ht hW => ⟨⟨(2, L8f0x6, L154f0x7, L154f0x8), rfl, ⟨(show 0 ≤ 2 ∧ 2 ≤ 4 from by omega), (show 0 ≤ L8f0x6.toInt ∧ L8f0x6.toInt ≤ 1000 from by omega), (show 0 ≤ L154f0x7.toInt ∧ L154f0x7.toInt ≤ 1000 from by omega), (show (-2147483648) ≤ L154f0x8.toInt ∧ L154f0x8.toInt ≤ 1000000 from by have := z_rng L154f0x8; omega)⟩, by rw [ht]; exact hP9, va_K.moved hW.alike hK, hD9⟩, hS.F ht⟩) hS.2.2 dX9_advance_252
              · skip
                have zh_82 : ¬ r_79.toInt = 0 := z_ne h_82
                refine lv_aload_n hx hb dX9_advance_179 rfl (lv_at hl 0 rfl) ?_
                refine lv_aload_n hx hb dX9_advance_180 rfl (lv_at hl 0 rfl) ?_
                refine va_get (D := D) (ci := 9) (v := .int L154f0x8) (C := RX9) (T := TX9) (N := 9) hx hb hts iT_X9 hown hK hP 0 rfl rfl 8 (by decide) (hts _ tw_1_207) (fun _ h9 => h9) rfl dX9_advance_181 ?_
                refine lv_bipush (v := 10) hx hb dX9_advance_184 (by decide) ?_
                refine lv_imul hx hb dX9_advance_186 ?_
                refine lv_topi (fun x_83 ex_83 => ?_)
                have zrL154f0x8 := z_rng L154f0x8
                refine lv_aload_n hx hb dX9_advance_187 rfl (lv_at hl 0 rfl) ?_
                refine lv_aload_n hx hb dX9_advance_188 rfl (lv_at hl 0 rfl) ?_
                refine va_get (D := D) (ci := 9) (v := .int L154f0x7) (C := RX9) (T := TX9) (N := 9) hx hb hts iT_X9 hown hK hP 0 rfl rfl 7 (by decide) (hts _ tw_1_206) (fun _ h9 => h9) rfl dX9_advance_189 ?_
                obtain ⟨hPc, hDc, hFc⟩ := sub3 hP hD hS hA (ws' := [(ob, .inr (9, [.int obv0, .int obv1, .int obv2, .ref obd, .ref ob_4, .int 2, .int L8f0x6, .int L154f0x7, .int L154f0x8])), (ob_4, .inl (k 1, 1000, .inl obg4))]) [0, 1] (by decide +kernel) rfl
                refine va_calli (va_runV (C := RX9) (As := [.int L154f0x7]) (rest := [.int x_83, .ref ob]) ⟨hx, hb, hml, hown, hts⟩ (c_X9_byteAt l D k ob L154f0x7 obv0 obv1 obv2 obd ob_4 2 L8f0x6 L154f0x7 L154f0x8 obg4 H.size (show 0 ≤ obv0.toInt ∧ obv0.toInt ≤ 1000 from by omega)) (cwV 1 hts (gV tw_3_2 tw_3_4 tw_p_1 tw_1_2 tw_3_5) rfl rfl rfl hdV_X9_byteAt ⟨Nat.le_of_ble_eq_true rfl, Nat.le_of_ble_eq_true rfl⟩) (cz_V hK hPc hDc hN (ci := 9) (q0 := 0) rfl rfl [.int L154f0x7]) rfl rfl hl.1 rfl (lv_room (Nat.le_of_ble_eq_true rfl)) dX9_advance_192 ⟨Nat.le_of_ble_eq_true rfl, Nat.le_of_ble_eq_true rfl⟩) hS (fun q _ h => hFc q h) hFc (fun r_84 uZ tZ H1 locs ht hvm hw hB hz1 hk1 hS => ?_)
                obtain ⟨hP1, hK1, hD1⟩ := hB
                rw [ht] at hP1
                obtain ⟨hP, hD⟩ := va_join (wr := []) (w1 := [(ob, .inr (9, [.int obv0, .int obv1, .int obv2, .ref obd, .ref ob_4, .int 2, .int L8f0x6, .int L154f0x7, .int L154f0x8])), (ob_4, .inl (k 1, 1000, .inl obg4))]) hP hD [0, 1] [] rfl rfl (by decide +kernel) (by decide +kernel) hk1 hFc hP1 hD1
                clear hK1 hP1 hD1 hPc hDc hFc
                clear hk1 hz1 ht hvm
                have hP : va_P D vwCl [(ob, .inr (9, [.int obv0, .int obv1, .int obv2, .ref obd, .ref ob_4, .int 2, .int L8f0x6, .int L154f0x7, .int L154f0x8])), (ob_4, .inl (k 1, 1000, .inl obg4))] H1 := hP
                have hD : va_D A [(ob, .inr (9, [.int obv0, .int obv1, .int obv2, .ref obd, .ref ob_4, .int 2, .int L8f0x6, .int L154f0x7, .int L154f0x8])), (ob_4, .inl (k 1, 1000, .inl obg4))] := hD
                generalize H1 = H at hP hS ⊢
                clear hw
                refine lv_iadd hx hb dX9_advance_195 ?_
                refine lv_topi (fun x_86 ex_86 => ?_)
                have zrx_83 := z_rng x_83
                have zrr_84 := z_rng r_84
                refine lv_bipush (v := 48) hx hb dX9_advance_196 (by decide) ?_
                refine lv_isub hx hb dX9_advance_198 ?_
                refine lv_topi (fun x_87 ex_87 => ?_)
                have zrx_86 := z_rng x_86
                refine lv_ldc (v := 1000000) hx hb hown (hts _ tw_3_15) dX9_advance_199 ?_
                obtain ⟨hPc, hDc, hFc⟩ := sub3 hP hD hS hA (ws' := []) [] (by decide +kernel) rfl
                refine va_calli (va_runS (As := [.int x_87, .int 1000000]) (rest := [.ref ob]) ⟨hx, hb, hml, hown, hts⟩ (c_J9_min_7cf53 l D k x_87 1000000 H.size) (va_cwS 2 hts (gS tw_3_16 tw_3_17 tw_1_14 tw_3_18) rfl rfl rfl hdS_J9_min_7cf53 ⟨Nat.le_of_ble_eq_true rfl, Nat.le_of_ble_eq_true rfl⟩) (cz_S hK hPc hDc hN [.int x_87, .int 1000000]) rfl rfl hl.1 rfl (lv_room (Nat.le_of_ble_eq_true rfl)) dX9_advance_201 ⟨Nat.le_of_ble_eq_true rfl, Nat.le_of_ble_eq_true rfl⟩) hS (fun q _ h => hFc q h) hFc (fun r_88 uZ tZ H1 locs ht hvm hw hB hz1 hk1 hS => ?_)
                obtain ⟨hP1, hK1, hD1⟩ := hB
                rw [ht] at hP1
                obtain ⟨hP, hD⟩ := va_join (wr := [(ob, .inr (9, [.int obv0, .int obv1, .int obv2, .ref obd, .ref ob_4, .int 2, .int L8f0x6, .int L154f0x7, .int L154f0x8])), (ob_4, .inl (k 1, 1000, .inl obg4))]) (w1 := []) hP hD [] [0, 1] rfl rfl (by decide +kernel) (by decide +kernel) hk1 hFc hP1 hD1
                clear hK1 hP1 hD1 hPc hDc hFc
                clear hk1 hz1 ht hvm
                have hP : va_P D vwCl [(ob, .inr (9, [.int obv0, .int obv1, .int obv2, .ref obd, .ref ob_4, .int 2, .int L8f0x6, .int L154f0x7, .int L154f0x8])), (ob_4, .inl (k 1, 1000, .inl obg4))] H1 := hP
                have hD : va_D A [(ob, .inr (9, [.int obv0, .int obv1, .int obv2, .ref obd, .ref ob_4, .int 2, .int L8f0x6, .int L154f0x7, .int L154f0x8])), (ob_4, .inl (k 1, 1000, .inl obg4))] := hD
                generalize H1 = H at hP hS ⊢
                have hw_89 : (r_88.toInt ≤ x_87.toInt ∧ r_88.toInt ≤ 1000000 ∧ (r_88.toInt = x_87.toInt ∨ r_88.toInt = 1000000)) := hw
                have hw_90 := hw_89
                clear hw
                refine va_put (D := D) (ci := 9) (v := .int r_88) (ty := tyX9 8) (C := RX9) (T := TX9) (N := 9) hx hb hts iT_X9 tyX9 tyX9_ok nmX9 hown hK hP hD hS 0 rfl rfl 8 (by decide) (hts _ tw_1_207) (fun _ h9 => h9) rfl (tyX9_ok 8 (by decide)) rfl rfl (Nat.le_of_ble_eq_true rfl) dX9_advance_204 (fun H locs hP hD hS => ?_)
                have hP : va_P D vwCl [(ob, .inr (9, [.int obv0, .int obv1, .int obv2, .ref obd, .ref ob_4, .int 2, .int L8f0x6, .int L154f0x7, .int r_88])), (ob_4, .inl (k 1, 1000, .inl obg4))] H := hP
                have hD : va_D A [(ob, .inr (9, [.int obv0, .int obv1, .int obv2, .ref obd, .ref ob_4, .int 2, .int L8f0x6, .int L154f0x7, .int r_88])), (ob_4, .inl (k 1, 1000, .inl obg4))] := hD
                refine lv_aload_n hx hb dX9_advance_207 rfl (lv_at hl 0 rfl) ?_
                refine lv_dup hx hb dX9_advance_208 rfl ?_
                refine va_get (D := D) (ci := 9) (v := .int L154f0x7) (C := RX9) (T := TX9) (N := 9) hx hb hts iT_X9 hown hK hP 0 rfl rfl 7 (by decide) (hts _ tw_1_206) (fun _ h9 => h9) rfl dX9_advance_209 ?_
                refine lv_iconst (v := 1) hx hb dX9_advance_212 (by decide) ?_
                refine lv_iadd hx hb dX9_advance_213 ?_
                refine lv_topi (fun x_91 ex_91 => ?_)
                have zx_91 : x_91.toInt = L154f0x7.toInt + 1 := by rw [ex_91]; exact z_add rfl rfl (by omega) (by omega)
                refine va_put (D := D) (ci := 9) (v := .int x_91) (ty := tyX9 7) (C := RX9) (T := TX9) (N := 9) hx hb hts iT_X9 tyX9 tyX9_ok nmX9 hown hK hP hD hS 0 rfl rfl 7 (by decide) (hts _ tw_1_206) (fun _ h9 => h9) rfl (tyX9_ok 7 (by decide)) rfl rfl (Nat.le_of_ble_eq_true rfl) dX9_advance_214 (fun H locs hP hD hS => ?_)
                have hP : va_P D vwCl [(ob, .inr (9, [.int obv0, .int obv1, .int obv2, .ref obd, .ref ob_4, .int 2, .int L8f0x6, .int x_91, .int r_88])), (ob_4, .inl (k 1, 1000, .inl obg4))] H := hP
                have hD : va_D A [(ob, .inr (9, [.int obv0, .int obv1, .int obv2, .ref obd, .ref ob_4, .int 2, .int L8f0x6, .int x_91, .int r_88])), (ob_4, .inl (k 1, 1000, .inl obg4))] := hD
                refine lv_goto (tgt := 154) hx hb dX9_advance_217 (by decide) ?_
                exact ih_74 _ _ _ _ (by omega) ⟨x_91, r_88, rfl, (show 0 ≤ x_91.toInt ∧ x_91.toInt ≤ 1000 from by omega), (show (-2147483648) ≤ r_88.toInt ∧ r_88.toInt ≤ 1000000 from by have := z_rng r_88; omega), hP.sub (ws' := [(ob, .inr (9, [.int obv0, .int obv1, .int obv2, .ref obd, .ref ob_4, .int 2, .int L8f0x6, .int x_91, .int r_88])), (ob_4, .inl (k 1, 1000, .inl obg4))]) [0, 1] rfl, hD.sub (ws' := [(ob, .inr (9, [.int obv0, .int obv1, .int obv2, .ref obd, .ref ob_4, .int 2, .int L8f0x6, .int x_91, .int r_88])), (ob_4, .inl (k 1, 1000, .inl obg4))]) [0, 1] (by decide +kernel) rfl, hS, lv_sub hl [0] rfl⟩
        · skip
          have zh_62 : ¬ r_59.toInt = 0 := z_ne h_62
          refine lv_aload_n hx hb dX9_advance_92 rfl (lv_at hl 0 rfl) ?_
          refine lv_iconst (v := 1) hx hb dX9_advance_93 (by decide) ?_
          refine va_put (D := D) (ci := 9) (v := .int 1) (ty := tyX9 5) (C := RX9) (T := TX9) (N := 9) hx hb hts iT_X9 tyX9 tyX9_ok nmX9 hown hK hP hD hS 0 rfl rfl 5 (by decide) (hts _ tw_1_204) (fun _ h9 => h9) rfl (tyX9_ok 5 (by decide)) rfl rfl (Nat.le_of_ble_eq_true rfl) dX9_advance_94 (fun H locs hP hD hS => ?_)
          have hP : va_P D vwCl [(ob, .inr (9, [.int obv0, .int obv1, .int obv2, .ref obd, .ref ob_4, .int 1, .int L8f0x6, .int L8f0x6, .int 0])), (ob_4, .inl (k 1, 1000, .inl obg4))] H := hP
          have hD : va_D A [(ob, .inr (9, [.int obv0, .int obv1, .int obv2, .ref obd, .ref ob_4, .int 1, .int L8f0x6, .int L8f0x6, .int 0])), (ob_4, .inl (k 1, 1000, .inl obg4))] := hD
          refine loop_r (Wg := fun H locs ls => W p l e _ s m _ below meth c H locs _ _ _ (F0 m 97 ls [])) (fun n9 H locs ls => ∃ (L97f0x7 : Int32), n9 = (1000 - L97f0x7.toInt).toNat ∧ (0 ≤ L97f0x7.toInt ∧ L97f0x7.toInt ≤ 1000) ∧ va_P D vwCl [(ob, .inr (9, [.int obv0, .int obv1, .int obv2, .ref obd, .ref ob_4, .int 1, .int L8f0x6, .int L97f0x7, .int 0])), (ob_4, .inl (k 1, 1000, .inl obg4))] H ∧ va_D A [(ob, .inr (9, [.int obv0, .int obv1, .int obv2, .ref obd, .ref ob_4, .int 1, .int L8f0x6, .int L97f0x7, .int 0])), (ob_4, .inl (k 1, 1000, .inl obg4))] ∧ va_S A s.heap H locs ∧ lv_has ls 1 [(0, .ref ob)]) (fun n9 H locs ls hI ih_92 => ?_) _ _ _ _ ⟨L8f0x6, rfl, (show 0 ≤ L8f0x6.toInt ∧ L8f0x6.toInt ≤ 1000 from by omega), hP.sub (ws' := [(ob, .inr (9, [.int obv0, .int obv1, .int obv2, .ref obd, .ref ob_4, .int 1, .int L8f0x6, .int L8f0x6, .int 0])), (ob_4, .inl (k 1, 1000, .inl obg4))]) [0, 1] rfl, hD.sub (ws' := [(ob, .inr (9, [.int obv0, .int obv1, .int obv2, .ref obd, .ref ob_4, .int 1, .int L8f0x6, .int L8f0x6, .int 0])), (ob_4, .inl (k 1, 1000, .inl obg4))]) [0, 1] (by decide +kernel) rfl, hS, lv_sub hl [0] rfl⟩
          clear hP hD hS hl
          obtain ⟨L97f0x7, en_93, zL97f0x7, hP, hD, hS, hl⟩ := hI
          refine lv_aload_n hx hb dX9_advance_97 rfl (lv_at hl 0 rfl) ?_
          refine va_get (D := D) (ci := 9) (v := .int L97f0x7) (C := RX9) (T := TX9) (N := 9) hx hb hts iT_X9 hown hK hP 0 rfl rfl 7 (by decide) (hts _ tw_1_206) (fun _ h9 => h9) rfl dX9_advance_98 ?_
          refine lv_aload_n hx hb dX9_advance_101 rfl (lv_at hl 0 rfl) ?_
          refine va_get (D := D) (ci := 9) (v := .int obv0) (C := RX9) (T := TX9) (N := 9) hx hb hts iT_X9 hown hK hP 0 rfl rfl 0 (by decide) (hts _ tw_1_195) (fun _ h9 => h9) rfl dX9_advance_102 ?_
          refine lv_icmp_ge (tgt := 252) hx hb dX9_advance_105 (by decide) (fun h_94 => ?_) (fun h_94 => ?_)
          · skip
            have zh_94 : obv0.toInt ≤ L97f0x7.toInt := z_le h_94
            obtain ⟨hP9, hD9⟩ := sub2 hP hD (ws' := [(ob, .inr (9, [.int obv0, .int obv1, .int obv2, .ref obd, .ref ob_4, .int 1, .int L8f0x6, .int L97f0x7, .int 0])), (ob_4, .inl (k 1, 1000, .inl obg4))]) [0, 1] (by decide +kernel) rfl
            exact W.vret hx hb hr (fun tZ ht hW => ⟨⟨(1, L8f0x6, L97f0x7, 0), rfl, ⟨(show 0 ≤ 1 ∧ 1 ≤ 4 from by omega), (show 0 ≤ L8f0x6.toInt ∧ L8f0x6.toInt ≤ 1000 from by omega), (show 0 ≤ L97f0x7.toInt ∧ L97f0x7.toInt ≤ 1000 from by omega), (show (-2147483648) ≤ 0 ∧ 0 ≤ 1000000 from by omega)⟩, by rw [ht]; exact hP9, va_K.moved hW.alike hK, hD9⟩, hS.F ht⟩) hS.2.2 dX9_advance_252
          · skip
            have zh_94 : L97f0x7.toInt < obv0.toInt := z_nle h_94
            refine lv_aload_n hx hb dX9_advance_108 rfl (lv_at hl 0 rfl) ?_
            refine lv_aload_n hx hb dX9_advance_109 rfl (lv_at hl 0 rfl) ?_
            refine va_get (D := D) (ci := 9) (v := .int L97f0x7) (C := RX9) (T := TX9) (N := 9) hx hb hts iT_X9 hown hK hP 0 rfl rfl 7 (by decide) (hts _ tw_1_206) (fun _ h9 => h9) rfl dX9_advance_110 ?_
            obtain ⟨hPc, hDc, hFc⟩ := sub3 hP hD hS hA (ws' := [(ob, .inr (9, [.int obv0, .int obv1, .int obv2, .ref obd, .ref ob_4, .int 1, .int L8f0x6, .int L97f0x7, .int 0])), (ob_4, .inl (k 1, 1000, .inl obg4))]) [0, 1] (by decide +kernel) rfl
            refine va_calli (va_runV (C := RX9) (As := [.int L97f0x7]) (rest := []) ⟨hx, hb, hml, hown, hts⟩ (c_X9_byteAt l D k ob L97f0x7 obv0 obv1 obv2 obd ob_4 1 L8f0x6 L97f0x7 0 obg4 H.size (show 0 ≤ obv0.toInt ∧ obv0.toInt ≤ 1000 from by omega)) (cwV 1 hts (gV tw_3_2 tw_3_4 tw_p_1 tw_1_2 tw_3_5) rfl rfl rfl hdV_X9_byteAt ⟨Nat.le_of_ble_eq_true rfl, Nat.le_of_ble_eq_true rfl⟩) (cz_V hK hPc hDc hN (ci := 9) (q0 := 0) rfl rfl [.int L97f0x7]) rfl rfl hl.1 rfl (lv_room (Nat.le_of_ble_eq_true rfl)) dX9_advance_113 ⟨Nat.le_of_ble_eq_true rfl, Nat.le_of_ble_eq_true rfl⟩) hS (fun q _ h => hFc q h) hFc (fun r_95 uZ tZ H1 locs ht hvm hw hB hz1 hk1 hS => ?_)
            obtain ⟨hP1, hK1, hD1⟩ := hB
            rw [ht] at hP1
            obtain ⟨hP, hD⟩ := va_join (wr := []) (w1 := [(ob, .inr (9, [.int obv0, .int obv1, .int obv2, .ref obd, .ref ob_4, .int 1, .int L8f0x6, .int L97f0x7, .int 0])), (ob_4, .inl (k 1, 1000, .inl obg4))]) hP hD [0, 1] [] rfl rfl (by decide +kernel) (by decide +kernel) hk1 hFc hP1 hD1
            clear hK1 hP1 hD1 hPc hDc hFc
            clear hk1 hz1 ht hvm
            have hP : va_P D vwCl [(ob, .inr (9, [.int obv0, .int obv1, .int obv2, .ref obd, .ref ob_4, .int 1, .int L8f0x6, .int L97f0x7, .int 0])), (ob_4, .inl (k 1, 1000, .inl obg4))] H1 := hP
            have hD : va_D A [(ob, .inr (9, [.int obv0, .int obv1, .int obv2, .ref obd, .ref ob_4, .int 1, .int L8f0x6, .int L97f0x7, .int 0])), (ob_4, .inl (k 1, 1000, .inl obg4))] := hD
            generalize H1 = H at hP hS ⊢
            clear hw
            obtain ⟨hPc, hDc, hFc⟩ := sub3 hP hD hS hA (ws' := []) [] (by decide +kernel) rfl
            refine va_calli (va_runS (As := [.int r_95]) (rest := []) ⟨hx, hb, hml, hown, hts⟩ (c_X9_isLetter l D k r_95 H.size) (va_cwS 1 hts (gS tw_3_9 tw_3_10 tw_1_2 tw_3_11) rfl rfl rfl hdS_X9_isLetter ⟨Nat.le_of_ble_eq_true rfl, Nat.le_of_ble_eq_true rfl⟩) (cz_S hK hPc hDc hN [.int r_95]) rfl rfl hl.1 rfl (lv_room (Nat.le_of_ble_eq_true rfl)) dX9_advance_116 ⟨Nat.le_of_ble_eq_true rfl, Nat.le_of_ble_eq_true rfl⟩) hS (fun q _ h => hFc q h) hFc (fun r_97 uZ tZ H1 locs ht hvm hw hB hz1 hk1 hS => ?_)
            obtain ⟨hP1, hK1, hD1⟩ := hB
            rw [ht] at hP1
            obtain ⟨hP, hD⟩ := va_join (wr := [(ob, .inr (9, [.int obv0, .int obv1, .int obv2, .ref obd, .ref ob_4, .int 1, .int L8f0x6, .int L97f0x7, .int 0])), (ob_4, .inl (k 1, 1000, .inl obg4))]) (w1 := []) hP hD [] [0, 1] rfl rfl (by decide +kernel) (by decide +kernel) hk1 hFc hP1 hD1
            clear hK1 hP1 hD1 hPc hDc hFc
            clear hk1 hz1 ht hvm
            have hP : va_P D vwCl [(ob, .inr (9, [.int obv0, .int obv1, .int obv2, .ref obd, .ref ob_4, .int 1, .int L8f0x6, .int L97f0x7, .int 0])), (ob_4, .inl (k 1, 1000, .inl obg4))] H1 := hP
            have hD : va_D A [(ob, .inr (9, [.int obv0, .int obv1, .int obv2, .ref obd, .ref ob_4, .int 1, .int L8f0x6, .int L97f0x7, .int 0])), (ob_4, .inl (k 1, 1000, .inl obg4))] := hD
            generalize H1 = H at hP hS ⊢
            have hw_98 : (0 ≤ r_97.toInt ∧ r_97.toInt ≤ 1) := hw
            have hw_99 := hw_98
            clear hw
            refine lv_if_eq (tgt := 252) hx hb dX9_advance_119 (by decide) (fun h_100 => ?_) (fun h_100 => ?_)
            · skip
              have zh_100 : r_97.toInt = 0 := z_eq h_100
              obtain ⟨hP9, hD9⟩ := sub2 hP hD (ws' := [(ob, .inr (9, [.int obv0, .int obv1, .int obv2, .ref obd, .ref ob_4, .int 1, .int L8f0x6, .int L97f0x7, .int 0])), (ob_4, .inl (k 1, 1000, .inl obg4))]) [0, 1] (by decide +kernel) rfl
              exact W.vret hx hb hr (fun tZ ht hW => ⟨⟨(1, L8f0x6, L97f0x7, 0), rfl, ⟨(show 0 ≤ 1 ∧ 1 ≤ 4 from by omega), (show 0 ≤ L8f0x6.toInt ∧ L8f0x6.toInt ≤ 1000 from by omega), (show 0 ≤ L97f0x7.toInt ∧ L97f0x7.toInt ≤ 1000 from by omega), (show (-2147483648) ≤ 0 ∧ 0 ≤ 1000000 from by omega)⟩, by rw [ht]; exact hP9, va_K.moved hW.alike hK, hD9⟩, hS.F ht⟩) hS.2.2 dX9_advance_252
            · skip
              have zh_100 : ¬ r_97.toInt = 0 := z_ne h_100
              refine lv_aload_n hx hb dX9_advance_122 rfl (lv_at hl 0 rfl) ?_
              refine lv_dup hx hb dX9_advance_123 rfl ?_
              refine va_get (D := D) (ci := 9) (v := .int L97f0x7) (C := RX9) (T := TX9) (N := 9) hx hb hts iT_X9 hown hK hP 0 rfl rfl 7 (by decide) (hts _ tw_1_206) (fun _ h9 => h9) rfl dX9_advance_124 ?_
              refine lv_iconst (v := 1) hx hb dX9_advance_127 (by decide) ?_
              refine lv_iadd hx hb dX9_advance_128 ?_
              refine lv_topi (fun x_101 ex_101 => ?_)
              have zx_101 : x_101.toInt = L97f0x7.toInt + 1 := by rw [ex_101]; exact z_add rfl rfl (by omega) (by omega)
              refine va_put (D := D) (ci := 9) (v := .int x_101) (ty := tyX9 7) (C := RX9) (T := TX9) (N := 9) hx hb hts iT_X9 tyX9 tyX9_ok nmX9 hown hK hP hD hS 0 rfl rfl 7 (by decide) (hts _ tw_1_206) (fun _ h9 => h9) rfl (tyX9_ok 7 (by decide)) rfl rfl (Nat.le_of_ble_eq_true rfl) dX9_advance_129 (fun H locs hP hD hS => ?_)
              have hP : va_P D vwCl [(ob, .inr (9, [.int obv0, .int obv1, .int obv2, .ref obd, .ref ob_4, .int 1, .int L8f0x6, .int x_101, .int 0])), (ob_4, .inl (k 1, 1000, .inl obg4))] H := hP
              have hD : va_D A [(ob, .inr (9, [.int obv0, .int obv1, .int obv2, .ref obd, .ref ob_4, .int 1, .int L8f0x6, .int x_101, .int 0])), (ob_4, .inl (k 1, 1000, .inl obg4))] := hD
              refine lv_goto (tgt := 97) hx hb dX9_advance_132 (by decide) ?_
              exact ih_92 _ _ _ _ (by omega) ⟨x_101, rfl, (show 0 ≤ x_101.toInt ∧ x_101.toInt ≤ 1000 from by omega), hP.sub (ws' := [(ob, .inr (9, [.int obv0, .int obv1, .int obv2, .ref obd, .ref ob_4, .int 1, .int L8f0x6, .int x_101, .int 0])), (ob_4, .inl (k 1, 1000, .inl obg4))]) [0, 1] rfl, hD.sub (ws' := [(ob, .inr (9, [.int obv0, .int obv1, .int obv2, .ref obd, .ref ob_4, .int 1, .int L8f0x6, .int x_101, .int 0])), (ob_4, .inl (k 1, 1000, .inl obg4))]) [0, 1] (by decide +kernel) rfl, hS, lv_sub hl [0] rfl⟩
      · skip
        have zh_56 : obv0.toInt ≤ L8f0x6.toInt := z_nlt h_56
        refine lv_aload_n hx hb dX9_advance_70 rfl (lv_at hl 0 rfl) ?_
        refine lv_iconst (v := 0) hx hb dX9_advance_71 (by decide) ?_
        refine va_put (D := D) (ci := 9) (v := .int 0) (ty := tyX9 5) (C := RX9) (T := TX9) (N := 9) hx hb hts iT_X9 tyX9 tyX9_ok nmX9 hown hK hP hD hS 0 rfl rfl 5 (by decide) (hts _ tw_1_204) (fun _ h9 => h9) rfl (tyX9_ok 5 (by decide)) rfl rfl (Nat.le_of_ble_eq_true rfl) dX9_advance_72 (fun H locs hP hD hS => ?_)
        have hP : va_P D vwCl [(ob, .inr (9, [.int obv0, .int obv1, .int obv2, .ref obd, .ref ob_4, .int 0, .int L8f0x6, .int L8f0x6, .int 0])), (ob_4, .inl (k 1, 1000, .inl obg4))] H := hP
        have hD : va_D A [(ob, .inr (9, [.int obv0, .int obv1, .int obv2, .ref obd, .ref ob_4, .int 0, .int L8f0x6, .int L8f0x6, .int 0])), (ob_4, .inl (k 1, 1000, .inl obg4))] := hD
        refine lv_goto (tgt := 252) hx hb dX9_advance_75 (by decide) ?_
        obtain ⟨hP9, hD9⟩ := sub2 hP hD (ws' := [(ob, .inr (9, [.int obv0, .int obv1, .int obv2, .ref obd, .ref ob_4, .int 0, .int L8f0x6, .int L8f0x6, .int 0])), (ob_4, .inl (k 1, 1000, .inl obg4))]) [0, 1] (by decide +kernel) rfl
        exact W.vret hx hb hr (fun tZ ht hW => ⟨⟨(0, L8f0x6, L8f0x6, 0), rfl, ⟨(show 0 ≤ 0 ∧ 0 ≤ 4 from by omega), (show 0 ≤ L8f0x6.toInt ∧ L8f0x6.toInt ≤ 1000 from by omega), (show 0 ≤ L8f0x6.toInt ∧ L8f0x6.toInt ≤ 1000 from by omega), (show (-2147483648) ≤ 0 ∧ 0 ≤ 1000000 from by omega)⟩, by rw [ht]; exact hP9, va_K.moved hW.alike hK, hD9⟩, hS.F ht⟩) hS.2.2 dX9_advance_252
    · skip
      have zh_55 : ¬ r_52.toInt = 0 := z_ne h_55
      refine lv_aload_n hx hb dX9_advance_33 rfl (lv_at hl 0 rfl) ?_
      refine lv_dup hx hb dX9_advance_34 rfl ?_
      refine va_get (D := D) (ci := 9) (v := .int L8f0x6) (C := RX9) (T := TX9) (N := 9) hx hb hts iT_X9 hown hK hP 0 rfl rfl 6 (by decide) (hts _ tw_1_205) (fun _ h9 => h9) rfl dX9_advance_35 ?_
      refine lv_iconst (v := 1) hx hb dX9_advance_38 (by decide) ?_
      refine lv_iadd hx hb dX9_advance_39 ?_
      refine lv_topi (fun x_102 ex_102 => ?_)
      have zx_102 : x_102.toInt = L8f0x6.toInt + 1 := by rw [ex_102]; exact z_add rfl rfl (by omega) (by omega)
      refine va_put (D := D) (ci := 9) (v := .int x_102) (ty := tyX9 6) (C := RX9) (T := TX9) (N := 9) hx hb hts iT_X9 tyX9 tyX9_ok nmX9 hown hK hP hD hS 0 rfl rfl 6 (by decide) (hts _ tw_1_205) (fun _ h9 => h9) rfl (tyX9_ok 6 (by decide)) rfl rfl (Nat.le_of_ble_eq_true rfl) dX9_advance_40 (fun H locs hP hD hS => ?_)
      have hP : va_P D vwCl [(ob, .inr (9, [.int obv0, .int obv1, .int obv2, .ref obd, .ref ob_4, .int obv5, .int x_102, .int obv7, .int obv8])), (ob_4, .inl (k 1, 1000, .inl obg4))] H := hP
      have hD : va_D A [(ob, .inr (9, [.int obv0, .int obv1, .int obv2, .ref obd, .ref ob_4, .int obv5, .int x_102, .int obv7, .int obv8])), (ob_4, .inl (k 1, 1000, .inl obg4))] := hD
      refine lv_goto (tgt := 8) hx hb dX9_advance_43 (by decide) ?_
      exact ih_1 _ _ _ _ (by omega) ⟨x_102, rfl, (show 0 ≤ x_102.toInt ∧ x_102.toInt ≤ 1000 from by omega), hP.sub (ws' := [(ob, .inr (9, [.int obv0, .int obv1, .int obv2, .ref obd, .ref ob_4, .int obv5, .int x_102, .int obv7, .int obv8])), (ob_4, .inl (k 1, 1000, .inl obg4))]) [0, 1] rfl, hD.sub (ws' := [(ob, .inr (9, [.int obv0, .int obv1, .int obv2, .ref obd, .ref ob_4, .int obv5, .int x_102, .int obv7, .int obv8])), (ob_4, .inl (k 1, 1000, .inl obg4))]) [0, 1] (by decide +kernel) rfl, hS, lv_sub hl [0] rfl⟩
set_option maxHeartbeats 4000000 in
set_option maxRecDepth 100000 in
theorem c_J0_coder_7d493 (l : Launch) (D : va_G) (k : Nat → ClassId) (adK : Nat → Nat) (adV : Nat → Nat) (vF : Value) (wi : Nat) (sz : Nat) (hwi : wi < 16) : Met l yJ0_coder_7d493 (ww yJ0_coder_7d493 cJ0_coder_7d493 1 (some .byte)) ({ frames := 0, cells := 0, slots := 0, locals := 0 }) (Pre1 D k adK adV vF [] sz [.ref (adK wi)]) (va_Qi (fun (r : Int32) (_ : Unit) => (0 ≤ r.toInt ∧ r.toInt ≤ 0)) (fun (_ : Unit) tZ => Bw D k (va_A [] sz) [] tZ) (va_A [] sz)) 0 0 (va_A [] sz) := by
  refine Met.ofW (cc := cJ0_coder_7d493) (maxL := 1) (ret := (some .byte)) (by decide +kernel) rfl ?_
  intro p e s m args below meth c s₁ B hml hv
  obtain ⟨rfl, hsz, hP, hK, hD0, hN, hStr⟩ := hv
  have hx := B.exec
  have hb := B.bytes
  have hr := B.returns
  have hts : ∀ w ∈ TT, w.before _ s = true := fun w h => atoms_spec (ws := ww yJ0_coder_7d493 cJ0_coder_7d493 1 (some .byte)) B.pre w (List.mem_cons_of_mem _ h)
  have hown : s.vm.findClass RJ0 = some m.cls := findClass_of_methodNamed B.named
  have hlocks := B.notSynchronized
  subst hsz
  have hD := hD0.self (sz := s.heap.size)
  generalize hAe : va_A [] s.heap.size = A at hD hStr ⊢
  have hLw := lenS_le wi hwi
  have hA : ∀ q : Nat, s.heap.size ≤ q → A q := fun q h => by rw [← hAe]; exact Or.inr h
  have hS : va_S A s.heap s.heap [] := va_S.rf
  have hl := lv_entry ([.ref (adK wi)]) (n := 1) (Nat.le_of_ble_eq_true rfl)
  rw [lg_entry_eq]
  generalize (lg_sl ([.ref (adK wi)]) ++ List.replicate (1 - (lg_sl ([.ref (adK wi)])).length) Slot.unset).toArray = ls at hl ⊢
  have hl : lv_has ls 1 [(0, .ref (adK wi))] := hl
  refine va_gets hx hb hStr.2.2.1 hS hown (hts _ tw_3_36) (fun _ h9 => h9) dJ0_coder_7d493_0 ?_
  refine lv_if_eq (tgt := 13) hx hb dJ0_coder_7d493_3 (by decide) (fun c9 => absurd c9 (by decide)) (fun _ => ?_)
  refine lv_aload_n hx hb dJ0_coder_7d493_6 rfl (lv_at hl 0 rfl) ?_
  refine vk_getf hx hb ((hStr.1.1 wi hwi).2.1) hS hown (hts _ tw_9_26) (fun _ h9 => h9) dJ0_coder_7d493_7 ?_
  refine lv_goto (tgt := 14) hx hb dJ0_coder_7d493_10 (by decide) ?_
  obtain ⟨hP9, hD9⟩ := sub2 hP hD (ws' := []) [] (by decide +kernel) rfl
  exact W.zret (v := 0) hx hb hr (by decide) (fun tZ ht hW => ⟨⟨0, (), rfl, (show 0 ≤ 0 ∧ 0 ≤ 0 from by omega), by rw [ht]; exact hP9, va_K.moved hW.alike hK, hD9⟩, hS.F ht⟩) hS.2.2 dJ0_coder_7d493_14
set_option maxHeartbeats 4000000 in
set_option maxRecDepth 100000 in
theorem c_J0_length_8abf5 (l : Launch) (D : va_G) (k : Nat → ClassId) (adK : Nat → Nat) (adV : Nat → Nat) (vF : Value) (wi : Nat) (sz : Nat) (hwi : wi < 16) : Met l yJ0_length_8abf5 (ww yJ0_length_8abf5 cJ0_length_8abf5 1 (some .int)) ({ frames := 1, cells := 0, slots := 0, locals := 20 }) (Pre1 D k adK adV vF [] sz [.ref (adK wi)]) (va_Qi (fun (r : Int32) (_ : Unit) => (0 ≤ r.toInt ∧ r.toInt ≤ 8) ∧ (r = nI (lenS.getD wi 0)) ∧ (r.toInt = ((lenS.getD wi 0 : Nat) : Int))) (fun (_ : Unit) tZ => Bw D k (va_A [] sz) [] tZ) (va_A [] sz)) 0 0 (va_A [] sz) := by
  refine Met.ofW (cc := cJ0_length_8abf5) (maxL := 1) (ret := (some .int)) (by decide +kernel) rfl ?_
  intro p e s m args below meth c s₁ B hml hv
  obtain ⟨rfl, hsz, hP, hK, hD0, hN, hStr⟩ := hv
  have hx := B.exec
  have hb := B.bytes
  have hr := B.returns
  have hts : ∀ w ∈ TT, w.before _ s = true := fun w h => atoms_spec (ws := ww yJ0_length_8abf5 cJ0_length_8abf5 1 (some .int)) B.pre w (List.mem_cons_of_mem _ h)
  have hown : s.vm.findClass RJ0 = some m.cls := findClass_of_methodNamed B.named
  have hlocks := B.notSynchronized
  subst hsz
  have hD := hD0.self (sz := s.heap.size)
  generalize hAe : va_A [] s.heap.size = A at hD hStr ⊢
  have hLw := lenS_le wi hwi
  have hA : ∀ q : Nat, s.heap.size ≤ q → A q := fun q h => by rw [← hAe]; exact Or.inr h
  have hS : va_S A s.heap s.heap [] := va_S.rf
  have hl := lv_entry ([.ref (adK wi)]) (n := 1) (Nat.le_of_ble_eq_true rfl)
  rw [lg_entry_eq]
  generalize (lg_sl ([.ref (adK wi)]) ++ List.replicate (1 - (lg_sl ([.ref (adK wi)])).length) Slot.unset).toArray = ls at hl ⊢
  have hl : lv_has ls 1 [(0, .ref (adK wi))] := hl
  refine lv_aload_n hx hb dJ0_length_8abf5_0 rfl (lv_at hl 0 rfl) ?_
  refine vk_getf hx hb ((hStr.1.1 wi hwi).2.2.1) hS hown (hts _ tw_9_25) (fun _ h9 => h9) dJ0_length_8abf5_1 ?_
  refine va_tlen hx hb ((hStr.1.1 wi hwi).2.2.2) hS rfl dJ0_length_8abf5_4 ?_
  refine lv_topi (fun x_1 ex_1 => ?_)
  have zx_1 : x_1.toInt = ((lenS.getD wi 0 : Nat) : Int) := by rw [ex_1]; exact lenS_z wi hwi
  refine lv_aload_n hx hb dJ0_length_8abf5_5 rfl (lv_at hl 0 rfl) ?_
  obtain ⟨hPc, hDc, hFc⟩ := sub3 hP hD hS hA (ws' := []) [] (by decide +kernel) rfl
  refine va_calli (va_runV (C := "java/lang/String") (As := []) (rest := [.int x_1]) ⟨hx, hb, hml, hown, hts⟩ (c_J0_coder_7d493 l D k adK adV vF wi s.heap.size hwi) (cwV 0 hts (gV tw_3_32 tw_3_33 tw_3_34 tw_1_15 tw_3_35) rfl rfl rfl hdV_J0_coder_7d493 ⟨Nat.le_of_ble_eq_true rfl, Nat.le_of_ble_eq_true rfl⟩) (cz_VS hK hPc hDc hN hStr hS hFc hwi []) rfl rfl hl.1 rfl (lv_room (Nat.le_of_ble_eq_true rfl)) dJ0_length_8abf5_6 ⟨Nat.le_of_ble_eq_true rfl, Nat.le_of_ble_eq_true rfl⟩) hS (fun q _ h => hFc q h) hFc (fun r_2 uZ tZ H1 locs ht hvm hw hB hz1 hk1 hS => ?_)
  obtain ⟨hP1, hK1, hD1⟩ := hB
  rw [ht] at hP1
  obtain ⟨hP, hD⟩ := va_join (wr := []) (w1 := []) hP hD [] [] rfl rfl (by decide +kernel) (by decide +kernel) hk1 hFc hP1 hD1
  clear hK1 hP1 hD1 hPc hDc hFc
  clear hk1 hz1 ht hvm
  have hP : va_P D vwCl [] H1 := hP
  have hD : va_D A [] := hD
  generalize H1 = H at hP hS ⊢
  have hw_3 : (0 ≤ r_2.toInt ∧ r_2.toInt ≤ 0) := hw
  have hw_4 := hw_3
  clear hw
  obtain rfl : r_2 = 0 := Int32.toInt_inj.mp (show r_2.toInt = 0 from by omega)
  refine lv_ishr hx hb dJ0_length_8abf5_9 ?_
  refine lv_topi (fun x_5 ex_5 => ?_)
  have zx_5 : x_5.toInt = x_1.toInt := by rw [ex_5, z_sh0]
  obtain ⟨hP9, hD9⟩ := sub2 hP hD (ws' := []) [] (by decide +kernel) rfl
  exact W.iret (v := x_5) hx hb hr (fun tZ ht hW => ⟨⟨x_5, (), rfl, ⟨(show 0 ≤ x_5.toInt ∧ x_5.toInt ≤ 8 from by omega), (show x_5 = nI (lenS.getD wi 0) from by rw [ex_5, z_sh0, ex_1]; rfl), (show x_5.toInt = ((lenS.getD wi 0 : Nat) : Int) from by omega)⟩, by rw [ht]; exact hP9, va_K.moved hW.alike hK, hD9⟩, hS.F ht⟩) hS.2.2 dJ0_length_8abf5_10
set_option maxHeartbeats 4000000 in
set_option maxRecDepth 100000 in
theorem c_J0_isLatin1_aae02 (l : Launch) (D : va_G) (k : Nat → ClassId) (adK : Nat → Nat) (adV : Nat → Nat) (vF : Value) (wi : Nat) (sz : Nat) (hwi : wi < 16) : Met l yJ0_isLatin1_aae02 (ww yJ0_isLatin1_aae02 cJ0_isLatin1_aae02 1 (some .boolean)) ({ frames := 0, cells := 0, slots := 0, locals := 0 }) (Pre1 D k adK adV vF [] sz [.ref (adK wi)]) (va_Qi (fun (r : Int32) (_ : Unit) => (1 ≤ r.toInt ∧ r.toInt ≤ 1)) (fun (_ : Unit) tZ => Bw D k (va_A [] sz) [] tZ) (va_A [] sz)) 0 0 (va_A [] sz) := by
  refine Met.ofW (cc := cJ0_isLatin1_aae02) (maxL := 1) (ret := (some .boolean)) (by decide +kernel) rfl ?_
  intro p e s m args below meth c s₁ B hml hv
  obtain ⟨rfl, hsz, hP, hK, hD0, hN, hStr⟩ := hv
  have hx := B.exec
  have hb := B.bytes
  have hr := B.returns
  have hts : ∀ w ∈ TT, w.before _ s = true := fun w h => atoms_spec (ws := ww yJ0_isLatin1_aae02 cJ0_isLatin1_aae02 1 (some .boolean)) B.pre w (List.mem_cons_of_mem _ h)
  have hown : s.vm.findClass RJ0 = some m.cls := findClass_of_methodNamed B.named
  have hlocks := B.notSynchronized
  subst hsz
  have hD := hD0.self (sz := s.heap.size)
  generalize hAe : va_A [] s.heap.size = A at hD hStr ⊢
  have hLw := lenS_le wi hwi
  have hA : ∀ q : Nat, s.heap.size ≤ q → A q := fun q h => by rw [← hAe]; exact Or.inr h
  have hS : va_S A s.heap s.heap [] := va_S.rf
  have hl := lv_entry ([.ref (adK wi)]) (n := 1) (Nat.le_of_ble_eq_true rfl)
  rw [lg_entry_eq]
  generalize (lg_sl ([.ref (adK wi)]) ++ List.replicate (1 - (lg_sl ([.ref (adK wi)])).length) Slot.unset).toArray = ls at hl ⊢
  have hl : lv_has ls 1 [(0, .ref (adK wi))] := hl
  refine va_gets hx hb hStr.2.2.1 hS hown (hts _ tw_3_36) (fun _ h9 => h9) dJ0_isLatin1_aae02_0 ?_
  refine lv_if_eq (tgt := 17) hx hb dJ0_isLatin1_aae02_3 (by decide) (fun c9 => absurd c9 (by decide)) (fun _ => ?_)
  refine lv_aload_n hx hb dJ0_isLatin1_aae02_6 rfl (lv_at hl 0 rfl) ?_
  refine vk_getf hx hb ((hStr.1.1 wi hwi).2.1) hS hown (hts _ tw_9_26) (fun _ h9 => h9) dJ0_isLatin1_aae02_7 ?_
  refine lv_if_ne (tgt := 17) hx hb dJ0_isLatin1_aae02_10 (by decide) (fun c9 => absurd c9 (by decide)) (fun _ => ?_)
  refine lv_iconst (v := 1) hx hb dJ0_isLatin1_aae02_13 (by decide) ?_
  refine lv_goto (tgt := 18) hx hb dJ0_isLatin1_aae02_14 (by decide) ?_
  obtain ⟨hP9, hD9⟩ := sub2 hP hD (ws' := []) [] (by decide +kernel) rfl
  exact W.zret (v := 1) hx hb hr (by decide) (fun tZ ht hW => ⟨⟨1, (), rfl, (show 1 ≤ 1 ∧ 1 ≤ 1 from by omega), by rw [ht]; exact hP9, va_K.moved hW.alike hK, hD9⟩, hS.F ht⟩) hS.2.2 dJ0_isLatin1_aae02_18
set_option maxHeartbeats 4000000 in
set_option maxRecDepth 100000 in
theorem c_J3_checkIndex_8e157_0 (l : Launch) (D : va_G) (k : Nat → ClassId) (p0 : Int32) (p1 : Int32) (sz : Nat) (h_p0 : 0 ≤ p0.toInt ∧ p0.toInt ≤ 7) (hlt : p0.toInt < p1.toInt) : Met l yJ3_checkIndex_8e157 (ww yJ3_checkIndex_8e157 cJ3_checkIndex_8e157 3 (some .int)) ({ frames := 0, cells := 0, slots := 0, locals := 0 }) (Pre0 D k [] sz [.int p0, .int p1, .null]) (va_Qi (fun (r : Int32) (_ : Unit) => (0 ≤ r.toInt ∧ r.toInt ≤ 7)) (fun (_ : Unit) tZ => Bw D k (va_A [] sz) [] tZ) (va_A [] sz)) 0 0 (va_A [] sz) := by
  refine Met.ofW (cc := cJ3_checkIndex_8e157) (maxL := 3) (ret := (some .int)) (by decide +kernel) rfl ?_
  intro p e s m args below meth c s₁ B hml hv
  obtain ⟨rfl, hsz, hP, hK, hD0, hN⟩ := hv
  have hx := B.exec
  have hb := B.bytes
  have hr := B.returns
  have hts : ∀ w ∈ TT, w.before _ s = true := fun w h => atoms_spec (ws := ww yJ3_checkIndex_8e157 cJ3_checkIndex_8e157 3 (some .int)) B.pre w (List.mem_cons_of_mem _ h)
  have hown : s.vm.findClass RJ3 = some m.cls := findClass_of_methodNamed B.named
  have hlocks := B.notSynchronized
  subst hsz
  have hD := hD0.self (sz := s.heap.size)
  generalize hAe : va_A [] s.heap.size = A at hD ⊢
  have hA : ∀ q : Nat, s.heap.size ≤ q → A q := fun q h => by rw [← hAe]; exact Or.inr h
  have hS : va_S A s.heap s.heap [] := va_S.rf
  have hl := lv_entry ([.int p0, .int p1, .null]) (n := 3) (Nat.le_of_ble_eq_true rfl)
  rw [lg_entry_eq]
  generalize (lg_sl ([.int p0, .int p1, .null]) ++ List.replicate (3 - (lg_sl ([.int p0, .int p1, .null])).length) Slot.unset).toArray = ls at hl ⊢
  have hl : lv_has ls 3 [(0, .int p0), (1, .int p1), (2, .null)] := hl
  refine lv_iload_n hx hb dJ3_checkIndex_8e157_0 rfl (lv_at hl 0 rfl) ?_
  refine lv_if_lt (tgt := 9) hx hb dJ3_checkIndex_8e157_1 (by decide) (fun h_1 => ?_) (fun h_1 => ?_)
  · skip
    have zh_1 : p0.toInt < 0 := z_lt h_1
    exact False.elim (by omega)
  · skip
    have zh_1 : 0 ≤ p0.toInt := z_nlt h_1
    refine lv_iload_n hx hb dJ3_checkIndex_8e157_4 rfl (lv_at hl 0 rfl) ?_
    refine lv_iload_n hx hb dJ3_checkIndex_8e157_5 rfl (lv_at hl 1 rfl) ?_
    refine lv_icmp_lt (tgt := 16) hx hb dJ3_checkIndex_8e157_6 (by decide) (fun h_2 => ?_) (fun h_2 => ?_)
    · skip
      have zh_2 : p0.toInt < p1.toInt := z_lt h_2
      refine lv_iload_n hx hb dJ3_checkIndex_8e157_16 rfl (lv_at hl 0 rfl) ?_
      obtain ⟨hP9, hD9⟩ := sub2 hP hD (ws' := []) [] (by decide +kernel) rfl
      exact W.iret (v := p0) hx hb hr (fun tZ ht hW => ⟨⟨p0, (), rfl, (show 0 ≤ p0.toInt ∧ p0.toInt ≤ 7 from by omega), by rw [ht]; exact hP9, va_K.moved hW.alike hK, hD9⟩, hS.F ht⟩) hS.2.2 dJ3_checkIndex_8e157_17
    · skip
      exact False.elim (by have z9 := z_nlt h_2; omega)
set_option maxHeartbeats 4000000 in
set_option maxRecDepth 100000 in
theorem c_J3_checkIndex_8e157_1 (l : Launch) (D : va_G) (k : Nat → ClassId) (p0 : Int32) (p1 : Int32) (aF : Nat) (sz : Nat) (h_p0 : 0 ≤ p0.toInt ∧ p0.toInt ≤ 7) (hlt : p0.toInt < p1.toInt) : Met l yJ3_checkIndex_8e157 (ww yJ3_checkIndex_8e157 cJ3_checkIndex_8e157 3 (some .int)) ({ frames := 0, cells := 0, slots := 0, locals := 0 }) (Pre0 D k [] sz [.int p0, .int p1, .ref aF]) (va_Qi (fun (r : Int32) (_ : Unit) => (0 ≤ r.toInt ∧ r.toInt ≤ 7)) (fun (_ : Unit) tZ => Bw D k (va_A [] sz) [] tZ) (va_A [] sz)) 0 0 (va_A [] sz) := by
  refine Met.ofW (cc := cJ3_checkIndex_8e157) (maxL := 3) (ret := (some .int)) (by decide +kernel) rfl ?_
  intro p e s m args below meth c s₁ B hml hv
  obtain ⟨rfl, hsz, hP, hK, hD0, hN⟩ := hv
  have hx := B.exec
  have hb := B.bytes
  have hr := B.returns
  have hts : ∀ w ∈ TT, w.before _ s = true := fun w h => atoms_spec (ws := ww yJ3_checkIndex_8e157 cJ3_checkIndex_8e157 3 (some .int)) B.pre w (List.mem_cons_of_mem _ h)
  have hown : s.vm.findClass RJ3 = some m.cls := findClass_of_methodNamed B.named
  have hlocks := B.notSynchronized
  subst hsz
  have hD := hD0.self (sz := s.heap.size)
  generalize hAe : va_A [] s.heap.size = A at hD ⊢
  have hA : ∀ q : Nat, s.heap.size ≤ q → A q := fun q h => by rw [← hAe]; exact Or.inr h
  have hS : va_S A s.heap s.heap [] := va_S.rf
  have hl := lv_entry ([.int p0, .int p1, .ref aF]) (n := 3) (Nat.le_of_ble_eq_true rfl)
  rw [lg_entry_eq]
  generalize (lg_sl ([.int p0, .int p1, .ref aF]) ++ List.replicate (3 - (lg_sl ([.int p0, .int p1, .ref aF])).length) Slot.unset).toArray = ls at hl ⊢
  have hl : lv_has ls 3 [(0, .int p0), (1, .int p1), (2, .ref aF)] := hl
  refine lv_iload_n hx hb dJ3_checkIndex_8e157_0 rfl (lv_at hl 0 rfl) ?_
  refine lv_if_lt (tgt := 9) hx hb dJ3_checkIndex_8e157_1 (by decide) (fun h_1 => ?_) (fun h_1 => ?_)
  · skip
    have zh_1 : p0.toInt < 0 := z_lt h_1
    exact False.elim (by omega)
  · skip
    have zh_1 : 0 ≤ p0.toInt := z_nlt h_1
    refine lv_iload_n hx hb dJ3_checkIndex_8e157_4 rfl (lv_at hl 0 rfl) ?_
    refine lv_iload_n hx hb dJ3_checkIndex_8e157_5 rfl (lv_at hl 1 rfl) ?_
    refine lv_icmp_lt (tgt := 16) hx hb dJ3_checkIndex_8e157_6 (by decide) (fun h_2 => ?_) (fun h_2 => ?_)
    · skip
      have zh_2 : p0.toInt < p1.toInt := z_lt h_2
      refine lv_iload_n hx hb dJ3_checkIndex_8e157_16 rfl (lv_at hl 0 rfl) ?_
      obtain ⟨hP9, hD9⟩ := sub2 hP hD (ws' := []) [] (by decide +kernel) rfl
      exact W.iret (v := p0) hx hb hr (fun tZ ht hW => ⟨⟨p0, (), rfl, (show 0 ≤ p0.toInt ∧ p0.toInt ≤ 7 from by omega), by rw [ht]; exact hP9, va_K.moved hW.alike hK, hD9⟩, hS.F ht⟩) hS.2.2 dJ3_checkIndex_8e157_17
    · skip
      exact False.elim (by have z9 := z_nlt h_2; omega)
set_option maxHeartbeats 4000000 in
set_option maxRecDepth 100000 in
theorem c_J0_checkIndex_df160_0 (l : Launch) (D : va_G) (k : Nat → ClassId) (adK : Nat → Nat) (adV : Nat → Nat) (p0 : Int32) (p1 : Int32) (sz : Nat) (h_p0 : 0 ≤ p0.toInt ∧ p0.toInt ≤ 7) (hlt : p0.toInt < p1.toInt) : Met l yJ0_checkIndex_df160 (ww yJ0_checkIndex_df160 cJ0_checkIndex_df160 2 none) ({ frames := 1, cells := 0, slots := 0, locals := 22 }) (Pre1 D k adK adV .null [] sz [.int p0, .int p1]) (va_Qv (fun (_ : Unit) => True) (fun (_ : Unit) tZ => Bw D k (va_A [] sz) [] tZ) (va_A [] sz)) 0 0 (va_A [] sz) := by
  refine Met.ofW (cc := cJ0_checkIndex_df160) (maxL := 2) (ret := none) (by decide +kernel) rfl ?_
  intro p e s m args below meth c s₁ B hml hv
  obtain ⟨rfl, hsz, hP, hK, hD0, hN, hStr⟩ := hv
  have hx := B.exec
  have hb := B.bytes
  have hr := B.returns
  have hts : ∀ w ∈ TT, w.before _ s = true := fun w h => atoms_spec (ws := ww yJ0_checkIndex_df160 cJ0_checkIndex_df160 2 none) B.pre w (List.mem_cons_of_mem _ h)
  have hown : s.vm.findClass RJ0 = some m.cls := findClass_of_methodNamed B.named
  have hlocks := B.notSynchronized
  subst hsz
  have hD := hD0.self (sz := s.heap.size)
  generalize hAe : va_A [] s.heap.size = A at hD hStr ⊢
  have hA : ∀ q : Nat, s.heap.size ≤ q → A q := fun q h => by rw [← hAe]; exact Or.inr h
  have hS : va_S A s.heap s.heap [] := va_S.rf
  have hl := lv_entry ([.int p0, .int p1]) (n := 2) (Nat.le_of_ble_eq_true rfl)
  rw [lg_entry_eq]
  generalize (lg_sl ([.int p0, .int p1]) ++ List.replicate (2 - (lg_sl ([.int p0, .int p1])).length) Slot.unset).toArray = ls at hl ⊢
  have hl : lv_has ls 2 [(0, .int p0), (1, .int p1)] := hl
  refine lv_iload_n hx hb dJ0_checkIndex_df160_0 rfl (lv_at hl 0 rfl) ?_
  refine lv_iload_n hx hb dJ0_checkIndex_df160_1 rfl (lv_at hl 1 rfl) ?_
  refine va_gets hx hb hStr.2.2.2.1 hS hown (hts _ tw_3_52) (fun _ h9 => h9) dJ0_checkIndex_df160_2 ?_
  obtain ⟨hPc, hDc, hFc⟩ := sub3 hP hD hS hA (ws' := []) [] (by decide +kernel) rfl
  refine va_calli (va_runS (As := [.int p0, .int p1, .null]) (rest := []) ⟨hx, hb, hml, hown, hts⟩ (c_J3_checkIndex_8e157_0 l D k p0 p1 s.heap.size (show 0 ≤ p0.toInt ∧ p0.toInt ≤ 7 from by omega) (show p0.toInt < p1.toInt from by omega)) (va_cwS 3 hts (gS tw_3_54 tw_3_55 tw_1_17 tw_3_56) rfl rfl rfl hdS_J3_checkIndex_8e157 ⟨Nat.le_of_ble_eq_true rfl, Nat.le_of_ble_eq_true rfl⟩) (cz_S hK hPc hDc hN [.int p0, .int p1, .null]) rfl rfl hl.1 rfl (lv_room (Nat.le_of_ble_eq_true rfl)) dJ0_checkIndex_df160_5 ⟨Nat.le_of_ble_eq_true rfl, Nat.le_of_ble_eq_true rfl⟩) hS (fun q _ h => hFc q h) hFc (fun r_1 uZ tZ H1 locs ht hvm hw hB hz1 hk1 hS => ?_)
  obtain ⟨hP1, hK1, hD1⟩ := hB
  rw [ht] at hP1
  obtain ⟨hP, hD⟩ := va_join (wr := []) (w1 := []) hP hD [] [] rfl rfl (by decide +kernel) (by decide +kernel) hk1 hFc hP1 hD1
  clear hK1 hP1 hD1 hPc hDc hFc
  clear hk1 hz1 ht hvm
  have hP : va_P D vwCl [] H1 := hP
  have hD : va_D A [] := hD
  generalize H1 = H at hP hS ⊢
  have hw_2 : (0 ≤ r_1.toInt ∧ r_1.toInt ≤ 7) := hw
  have hw_3 := hw_2
  clear hw
  refine lv_pop hx hb dJ0_checkIndex_df160_8 rfl ?_
  obtain ⟨hP9, hD9⟩ := sub2 hP hD (ws' := []) [] (by decide +kernel) rfl
  exact W.vret hx hb hr (fun tZ ht hW => ⟨⟨(), rfl, trivial, by rw [ht]; exact hP9, va_K.moved hW.alike hK, hD9⟩, hS.F ht⟩) hS.2.2 dJ0_checkIndex_df160_9
set_option maxHeartbeats 4000000 in
set_option maxRecDepth 100000 in
theorem c_J0_checkIndex_df160_1 (l : Launch) (D : va_G) (k : Nat → ClassId) (adK : Nat → Nat) (adV : Nat → Nat) (aF : Nat) (p0 : Int32) (p1 : Int32) (sz : Nat) (h_p0 : 0 ≤ p0.toInt ∧ p0.toInt ≤ 7) (hlt : p0.toInt < p1.toInt) : Met l yJ0_checkIndex_df160 (ww yJ0_checkIndex_df160 cJ0_checkIndex_df160 2 none) ({ frames := 1, cells := 0, slots := 0, locals := 22 }) (Pre1 D k adK adV (.ref aF) [] sz [.int p0, .int p1]) (va_Qv (fun (_ : Unit) => True) (fun (_ : Unit) tZ => Bw D k (va_A [] sz) [] tZ) (va_A [] sz)) 0 0 (va_A [] sz) := by
  refine Met.ofW (cc := cJ0_checkIndex_df160) (maxL := 2) (ret := none) (by decide +kernel) rfl ?_
  intro p e s m args below meth c s₁ B hml hv
  obtain ⟨rfl, hsz, hP, hK, hD0, hN, hStr⟩ := hv
  have hx := B.exec
  have hb := B.bytes
  have hr := B.returns
  have hts : ∀ w ∈ TT, w.before _ s = true := fun w h => atoms_spec (ws := ww yJ0_checkIndex_df160 cJ0_checkIndex_df160 2 none) B.pre w (List.mem_cons_of_mem _ h)
  have hown : s.vm.findClass RJ0 = some m.cls := findClass_of_methodNamed B.named
  have hlocks := B.notSynchronized
  subst hsz
  have hD := hD0.self (sz := s.heap.size)
  generalize hAe : va_A [] s.heap.size = A at hD hStr ⊢
  have hA : ∀ q : Nat, s.heap.size ≤ q → A q := fun q h => by rw [← hAe]; exact Or.inr h
  have hS : va_S A s.heap s.heap [] := va_S.rf
  have hl := lv_entry ([.int p0, .int p1]) (n := 2) (Nat.le_of_ble_eq_true rfl)
  rw [lg_entry_eq]
  generalize (lg_sl ([.int p0, .int p1]) ++ List.replicate (2 - (lg_sl ([.int p0, .int p1])).length) Slot.unset).toArray = ls at hl ⊢
  have hl : lv_has ls 2 [(0, .int p0), (1, .int p1)] := hl
  refine lv_iload_n hx hb dJ0_checkIndex_df160_0 rfl (lv_at hl 0 rfl) ?_
  refine lv_iload_n hx hb dJ0_checkIndex_df160_1 rfl (lv_at hl 1 rfl) ?_
  refine va_gets hx hb hStr.2.2.2.1 hS hown (hts _ tw_3_52) (fun _ h9 => h9) dJ0_checkIndex_df160_2 ?_
  obtain ⟨hPc, hDc, hFc⟩ := sub3 hP hD hS hA (ws' := []) [] (by decide +kernel) rfl
  refine va_calli (va_runS (As := [.int p0, .int p1, .ref aF]) (rest := []) ⟨hx, hb, hml, hown, hts⟩ (c_J3_checkIndex_8e157_1 l D k p0 p1 aF s.heap.size (show 0 ≤ p0.toInt ∧ p0.toInt ≤ 7 from by omega) (show p0.toInt < p1.toInt from by omega)) (va_cwS 3 hts (gS tw_3_54 tw_3_55 tw_1_17 tw_3_56) rfl rfl rfl hdS_J3_checkIndex_8e157 ⟨Nat.le_of_ble_eq_true rfl, Nat.le_of_ble_eq_true rfl⟩) (cz_S hK hPc hDc hN [.int p0, .int p1, .ref aF]) rfl rfl hl.1 rfl (lv_room (Nat.le_of_ble_eq_true rfl)) dJ0_checkIndex_df160_5 ⟨Nat.le_of_ble_eq_true rfl, Nat.le_of_ble_eq_true rfl⟩) hS (fun q _ h => hFc q h) hFc (fun r_1 uZ tZ H1 locs ht hvm hw hB hz1 hk1 hS => ?_)
  obtain ⟨hP1, hK1, hD1⟩ := hB
  rw [ht] at hP1
  obtain ⟨hP, hD⟩ := va_join (wr := []) (w1 := []) hP hD [] [] rfl rfl (by decide +kernel) (by decide +kernel) hk1 hFc hP1 hD1
  clear hK1 hP1 hD1 hPc hDc hFc
  clear hk1 hz1 ht hvm
  have hP : va_P D vwCl [] H1 := hP
  have hD : va_D A [] := hD
  generalize H1 = H at hP hS ⊢
  have hw_2 : (0 ≤ r_1.toInt ∧ r_1.toInt ≤ 7) := hw
  have hw_3 := hw_2
  clear hw
  refine lv_pop hx hb dJ0_checkIndex_df160_8 rfl ?_
  obtain ⟨hP9, hD9⟩ := sub2 hP hD (ws' := []) [] (by decide +kernel) rfl
  exact W.vret hx hb hr (fun tZ ht hW => ⟨⟨(), rfl, trivial, by rw [ht]; exact hP9, va_K.moved hW.alike hK, hD9⟩, hS.F ht⟩) hS.2.2 dJ0_checkIndex_df160_9
theorem c_J0_checkIndex_df160 (l : Launch) (D : va_G) (k : Nat → ClassId) (adK : Nat → Nat) (adV : Nat → Nat) (vF : Value) (p0 : Int32) (p1 : Int32) (sz : Nat) (h_p0 : 0 ≤ p0.toInt ∧ p0.toInt ≤ 7) (hlt : p0.toInt < p1.toInt) (hvF : vF = .null ∨ ∃ a, vF = .ref a) : Met l yJ0_checkIndex_df160 (ww yJ0_checkIndex_df160 cJ0_checkIndex_df160 2 none) ({ frames := 1, cells := 0, slots := 0, locals := 22 }) (Pre1 D k adK adV vF [] sz [.int p0, .int p1]) (va_Qv (fun (_ : Unit) => True) (fun (_ : Unit) tZ => Bw D k (va_A [] sz) [] tZ) (va_A [] sz)) 0 0 (va_A [] sz) := by
  rcases hvF with rfl | ⟨aF, rfl⟩
  · exact c_J0_checkIndex_df160_0 l D k adK adV p0 p1 sz h_p0 hlt
  · exact c_J0_checkIndex_df160_1 l D k adK adV aF p0 p1 sz h_p0 hlt
set_option maxHeartbeats 4000000 in
set_option maxRecDepth 100000 in
theorem c_J1_charAt_3b067 (l : Launch) (D : va_G) (k : Nat → ClassId) (adK : Nat → Nat) (adV : Nat → Nat) (vF : Value) (wi : Nat) (p1 : Int32) (sz : Nat) (hwi : wi < 16) (h_p1 : 0 ≤ p1.toInt ∧ p1.toInt ≤ 7) (hlt : p1.toInt < ((lenS.getD wi 0 : Nat) : Int)) : Met l yJ1_charAt_3b067 (ww yJ1_charAt_3b067 cJ1_charAt_3b067 2 (some .char)) ({ frames := 2, cells := 0, slots := 0, locals := 43 }) (Pre1 D k adK adV vF [] sz [.ref (adV wi), .int p1]) (va_Qi (fun (r : Int32) (_ : Unit) => (0 ≤ r.toInt ∧ r.toInt ≤ 255) ∧ (narrow .char (.int r) = .int r)) (fun (_ : Unit) tZ => Bw D k (va_A [] sz) [] tZ) (va_A [] sz)) 0 0 (va_A [] sz) := by
  refine Met.ofW (cc := cJ1_charAt_3b067) (maxL := 2) (ret := (some .char)) (by decide +kernel) rfl ?_
  intro p e s m args below meth c s₁ B hml hv
  obtain ⟨rfl, hsz, hP, hK, hD0, hN, hStr⟩ := hv
  have hx := B.exec
  have hb := B.bytes
  have hr := B.returns
  have hts : ∀ w ∈ TT, w.before _ s = true := fun w h => atoms_spec (ws := ww yJ1_charAt_3b067 cJ1_charAt_3b067 2 (some .char)) B.pre w (List.mem_cons_of_mem _ h)
  have hown : s.vm.findClass RJ1 = some m.cls := findClass_of_methodNamed B.named
  have hlocks := B.notSynchronized
  subst hsz
  have hD := hD0.self (sz := s.heap.size)
  generalize hAe : va_A [] s.heap.size = A at hD hStr ⊢
  have hLw := lenS_le wi hwi
  have hA : ∀ q : Nat, s.heap.size ≤ q → A q := fun q h => by rw [← hAe]; exact Or.inr h
  have hS : va_S A s.heap s.heap [] := va_S.rf
  have hl := lv_entry ([.ref (adV wi), .int p1]) (n := 2) (Nat.le_of_ble_eq_true rfl)
  rw [lg_entry_eq]
  generalize (lg_sl ([.ref (adV wi), .int p1]) ++ List.replicate (2 - (lg_sl ([.ref (adV wi), .int p1])).length) Slot.unset).toArray = ls at hl ⊢
  have hl : lv_has ls 2 [(0, .ref (adV wi)), (1, .int p1)] := hl
  refine lv_iload_n hx hb dJ1_charAt_3b067_0 rfl (lv_at hl 1 rfl) ?_
  refine lv_aload_n hx hb dJ1_charAt_3b067_1 rfl (lv_at hl 0 rfl) ?_
  refine va_tlen hx hb ((hStr.1.1 wi hwi).2.2.2) hS rfl dJ1_charAt_3b067_2 ?_
  refine lv_topi (fun x_1 ex_1 => ?_)
  have zx_1 : x_1.toInt = ((lenS.getD wi 0 : Nat) : Int) := by rw [ex_1]; exact lenS_z wi hwi
  obtain ⟨hPc, hDc, hFc⟩ := sub3 hP hD hS hA (ws' := []) [] (by decide +kernel) rfl
  refine va_callv (va_runS (As := [.int p1, .int x_1]) (rest := []) ⟨hx, hb, hml, hown, hts⟩ (c_J0_checkIndex_df160 l D k adK adV vF p1 x_1 s.heap.size (show 0 ≤ p1.toInt ∧ p1.toInt ≤ 7 from by omega) (show p1.toInt < x_1.toInt from by omega) hStr.2.2.2.2) (va_cwS 2 hts (gS tw_3_49 tw_3_50 tw_1_15 tw_3_51) rfl rfl rfl hdS_J0_checkIndex_df160 ⟨Nat.le_of_ble_eq_true rfl, Nat.le_of_ble_eq_true rfl⟩) (cz_S1 hK hPc hDc hN hStr hS hFc [.int p1, .int x_1]) rfl rfl hl.1 rfl (lv_room (Nat.le_of_ble_eq_true rfl)) dJ1_charAt_3b067_3 ⟨Nat.le_of_ble_eq_true rfl, Nat.le_of_ble_eq_true rfl⟩) hS (fun q _ h => hFc q h) hFc (fun uZ tZ H1 locs ht hvm hw hB hz1 hk1 hS => ?_)
  obtain ⟨hP1, hK1, hD1⟩ := hB
  rw [ht] at hP1
  obtain ⟨hP, hD⟩ := va_join (wr := []) (w1 := []) hP hD [] [] rfl rfl (by decide +kernel) (by decide +kernel) hk1 hFc hP1 hD1
  clear hK1 hP1 hD1 hPc hDc hFc
  clear hk1 hz1 ht hvm
  have hP : va_P D vwCl [] H1 := hP
  have hD : va_D A [] := hD
  generalize H1 = H at hP hS ⊢
  clear hw
  refine lv_aload_n hx hb dJ1_charAt_3b067_6 rfl (lv_at hl 0 rfl) ?_
  refine lv_iload_n hx hb dJ1_charAt_3b067_7 rfl (lv_at hl 1 rfl) ?_
  refine va_tb hx hb ((hStr.1.1 wi hwi).2.2.2) hS (z_in (by omega) (by omega)) rfl dJ1_charAt_3b067_8 ?_
  refine lv_topi (fun x_4 ex_4 => ?_)
  refine lv_sipush (v := 255) hx hb dJ1_charAt_3b067_9 (by decide) ?_
  refine lv_iand hx hb dJ1_charAt_3b067_12 ?_
  refine lv_topi (fun x_5 ex_5 => ?_)
  have zrx_4 := z_rng x_4
  have zx_5 : 0 ≤ x_5.toInt ∧ x_5.toInt < 256 := by rw [ex_5]; exact z_and _ 8 256 rfl rfl (by decide)
  refine lv_i2c hx hb dJ1_charAt_3b067_13 rfl ?_
  refine lv_topi (fun x_6 ex_6 => ?_)
  obtain rfl : x_5 = x_6 := (show x_6 = x_5 from by rw [ex_6, ex_5]; exact sc_c2 _).symm
  obtain ⟨hP9, hD9⟩ := sub2 hP hD (ws' := []) [] (by decide +kernel) rfl
  exact W.zret (v := x_5) hx hb hr (by rw [ex_5]; exact sc_nar _) (fun tZ ht hW => ⟨⟨x_5, (), rfl, ⟨(show 0 ≤ x_5.toInt ∧ x_5.toInt ≤ 255 from by omega), (by rw [ex_5]; exact sc_nar _)⟩, by rw [ht]; exact hP9, va_K.moved hW.alike hK, hD9⟩, hS.F ht⟩) hS.2.2 dJ1_charAt_3b067_14
set_option maxHeartbeats 4000000 in
set_option maxRecDepth 100000 in
theorem c_J0_charAt_5068e (l : Launch) (D : va_G) (k : Nat → ClassId) (adK : Nat → Nat) (adV : Nat → Nat) (vF : Value) (wi : Nat) (p0 : Int32) (sz : Nat) (hwi : wi < 16) (h_p0 : 0 ≤ p0.toInt ∧ p0.toInt ≤ 7) (hlt : p0.toInt < ((lenS.getD wi 0 : Nat) : Int)) : Met l yJ0_charAt_5068e (ww yJ0_charAt_5068e cJ0_charAt_5068e 2 (some .char)) ({ frames := 3, cells := 0, slots := 0, locals := 64 }) (Pre1 D k adK adV vF [] sz [.ref (adK wi), .int p0]) (va_Qi (fun (r : Int32) (_ : Unit) => (0 ≤ r.toInt ∧ r.toInt ≤ 255) ∧ (narrow .char (.int r) = .int r)) (fun (_ : Unit) tZ => Bw D k (va_A [] sz) [] tZ) (va_A [] sz)) 0 0 (va_A [] sz) := by
  refine Met.ofW (cc := cJ0_charAt_5068e) (maxL := 2) (ret := (some .char)) (by decide +kernel) rfl ?_
  intro p e s m args below meth c s₁ B hml hv
  obtain ⟨rfl, hsz, hP, hK, hD0, hN, hStr⟩ := hv
  have hx := B.exec
  have hb := B.bytes
  have hr := B.returns
  have hts : ∀ w ∈ TT, w.before _ s = true := fun w h => atoms_spec (ws := ww yJ0_charAt_5068e cJ0_charAt_5068e 2 (some .char)) B.pre w (List.mem_cons_of_mem _ h)
  have hown : s.vm.findClass RJ0 = some m.cls := findClass_of_methodNamed B.named
  have hlocks := B.notSynchronized
  subst hsz
  have hD := hD0.self (sz := s.heap.size)
  generalize hAe : va_A [] s.heap.size = A at hD hStr ⊢
  have hLw := lenS_le wi hwi
  have hA : ∀ q : Nat, s.heap.size ≤ q → A q := fun q h => by rw [← hAe]; exact Or.inr h
  have hS : va_S A s.heap s.heap [] := va_S.rf
  have hl := lv_entry ([.ref (adK wi), .int p0]) (n := 2) (Nat.le_of_ble_eq_true rfl)
  rw [lg_entry_eq]
  generalize (lg_sl ([.ref (adK wi), .int p0]) ++ List.replicate (2 - (lg_sl ([.ref (adK wi), .int p0])).length) Slot.unset).toArray = ls at hl ⊢
  have hl : lv_has ls 2 [(0, .ref (adK wi)), (1, .int p0)] := hl
  refine lv_aload_n hx hb dJ0_charAt_5068e_0 rfl (lv_at hl 0 rfl) ?_
  obtain ⟨hPc, hDc, hFc⟩ := sub3 hP hD hS hA (ws' := []) [] (by decide +kernel) rfl
  refine va_calli (va_runV (C := "java/lang/String") (As := []) (rest := []) ⟨hx, hb, hml, hown, hts⟩ (c_J0_isLatin1_aae02 l D k adK adV vF wi s.heap.size hwi) (cwV 0 hts (gV tw_3_42 tw_3_43 tw_3_44 tw_1_15 tw_3_45) rfl rfl rfl hdV_J0_isLatin1_aae02 ⟨Nat.le_of_ble_eq_true rfl, Nat.le_of_ble_eq_true rfl⟩) (cz_VS hK hPc hDc hN hStr hS hFc hwi []) rfl rfl hl.1 rfl (lv_room (Nat.le_of_ble_eq_true rfl)) dJ0_charAt_5068e_1 ⟨Nat.le_of_ble_eq_true rfl, Nat.le_of_ble_eq_true rfl⟩) hS (fun q _ h => hFc q h) hFc (fun r_1 uZ tZ H1 locs ht hvm hw hB hz1 hk1 hS => ?_)
  obtain ⟨hP1, hK1, hD1⟩ := hB
  rw [ht] at hP1
  obtain ⟨hP, hD⟩ := va_join (wr := []) (w1 := []) hP hD [] [] rfl rfl (by decide +kernel) (by decide +kernel) hk1 hFc hP1 hD1
  clear hK1 hP1 hD1 hPc hDc hFc
  clear hk1 hz1 ht hvm
  have hP : va_P D vwCl [] H1 := hP
  have hD : va_D A [] := hD
  generalize H1 = H at hP hS ⊢
  have hw_2 : (1 ≤ r_1.toInt ∧ r_1.toInt ≤ 1) := hw
  have hw_3 := hw_2
  clear hw
  obtain rfl : r_1 = 1 := Int32.toInt_inj.mp (show r_1.toInt = 1 from by omega)
  refine lv_if_eq (tgt := 16) hx hb dJ0_charAt_5068e_4 (by decide) (fun c9 => absurd c9 (by decide)) (fun _ => ?_)
  refine lv_aload_n hx hb dJ0_charAt_5068e_7 rfl (lv_at hl 0 rfl) ?_
  refine vk_getf hx hb ((hStr.1.1 wi hwi).2.2.1) hS hown (hts _ tw_9_25) (fun _ h9 => h9) dJ0_charAt_5068e_8 ?_
  refine lv_iload_n hx hb dJ0_charAt_5068e_11 rfl (lv_at hl 1 rfl) ?_
  obtain ⟨hPc, hDc, hFc⟩ := sub3 hP hD hS hA (ws' := []) [] (by decide +kernel) rfl
  refine va_calli (va_runS (As := [.ref (adV wi), .int p0]) (rest := []) ⟨hx, hb, hml, hown, hts⟩ (c_J1_charAt_3b067 l D k adK adV vF wi p0 H.size hwi (show 0 ≤ p0.toInt ∧ p0.toInt ≤ 7 from by omega) (show p0.toInt < ((lenS.getD wi 0 : Nat) : Int) from by omega)) (va_cwS 2 hts (gS tw_3_46 tw_3_47 tw_1_16 tw_3_48) rfl rfl rfl hdS_J1_charAt_3b067 ⟨Nat.le_of_ble_eq_true rfl, Nat.le_of_ble_eq_true rfl⟩) (cz_S1 hK hPc hDc hN hStr hS hFc [.ref (adV wi), .int p0]) rfl rfl hl.1 rfl (lv_room (Nat.le_of_ble_eq_true rfl)) dJ0_charAt_5068e_12 ⟨Nat.le_of_ble_eq_true rfl, Nat.le_of_ble_eq_true rfl⟩) hS (fun q _ h => hFc q h) hFc (fun r_4 uZ tZ H1 locs ht hvm hw hB hz1 hk1 hS => ?_)
  obtain ⟨hP1, hK1, hD1⟩ := hB
  rw [ht] at hP1
  obtain ⟨hP, hD⟩ := va_join (wr := []) (w1 := []) hP hD [] [] rfl rfl (by decide +kernel) (by decide +kernel) hk1 hFc hP1 hD1
  clear hK1 hP1 hD1 hPc hDc hFc
  clear hk1 hz1 ht hvm
  have hP : va_P D vwCl [] H1 := hP
  have hD : va_D A [] := hD
  generalize H1 = H at hP hS ⊢
  have hw_5 : (0 ≤ r_4.toInt ∧ r_4.toInt ≤ 255) ∧ (narrow .char (.int r_4) = .int r_4) := hw
  obtain ⟨hw_6, hw_7⟩ := hw_5
  clear hw
  obtain ⟨hP9, hD9⟩ := sub2 hP hD (ws' := []) [] (by decide +kernel) rfl
  exact W.zret (v := r_4) hx hb hr (hw_7) (fun tZ ht hW => ⟨⟨r_4, (), rfl, ⟨(show 0 ≤ r_4.toInt ∧ r_4.toInt ≤ 255 from by omega), (hw_7)⟩, by rw [ht]; exact hP9, va_K.moved hW.alike hK, hD9⟩, hS.F ht⟩) hS.2.2 dJ0_charAt_5068e_15
set_option maxHeartbeats 4000000 in
set_option maxRecDepth 100000 in
theorem c_X9_isWord (l : Launch) (D : va_G) (k : Nat → ClassId) (adK : Nat → Nat) (adV : Nat → Nat) (vF : Value) (wi : Nat) (ob : Nat) (obv0 : Int32) (obv1 : Int32) (obv2 : Int32) (obd : Nat) (ob_4 : Nat) (obv5 : Int32) (obv6 : Int32) (obv7 : Int32) (obv8 : Int32) (obg4 : Nat → Int32) (sz : Nat) (hwi : wi < 16) (h_obv0 : 0 ≤ obv0.toInt ∧ obv0.toInt ≤ 1000) : Met l yX9_isWord (ww yX9_isWord cX9_isWord 3 (some .boolean)) ({ frames := 4, cells := 0, slots := 0, locals := 85 }) (Pre1 D k adK adV vF [(ob, .inr (9, [.int obv0, .int obv1, .int obv2, .ref obd, .ref ob_4, .int obv5, .int obv6, .int obv7, .int obv8])), (ob_4, .inl (k 1, 1000, .inl obg4))] sz [.ref ob, .ref (adK wi)]) (va_Qi (fun (r : Int32) (_ : Unit) => (0 ≤ r.toInt ∧ r.toInt ≤ 1)) (fun (_ : Unit) tZ => Bw D k (va_A [(ob, .inr (9, [.int obv0, .int obv1, .int obv2, .ref obd, .ref ob_4, .int obv5, .int obv6, .int obv7, .int obv8])), (ob_4, .inl (k 1, 1000, .inl obg4))] sz) [(ob, .inr (9, [.int obv0, .int obv1, .int obv2, .ref obd, .ref ob_4, .int obv5, .int obv6, .int obv7, .int obv8])), (ob_4, .inl (k 1, 1000, .inl obg4))] tZ) (va_A [(ob, .inr (9, [.int obv0, .int obv1, .int obv2, .ref obd, .ref ob_4, .int obv5, .int obv6, .int obv7, .int obv8])), (ob_4, .inl (k 1, 1000, .inl obg4))] sz)) 0 0 (va_A [(ob, .inr (9, [.int obv0, .int obv1, .int obv2, .ref obd, .ref ob_4, .int obv5, .int obv6, .int obv7, .int obv8])), (ob_4, .inl (k 1, 1000, .inl obg4))] sz) := by
  refine Met.ofW (cc := cX9_isWord) (maxL := 3) (ret := (some .boolean)) (by decide +kernel) rfl ?_
  intro p e s m args below meth c s₁ B hml hv
  obtain ⟨rfl, hsz, hP, hK, hD0, hN, hStr⟩ := hv
  have hx := B.exec
  have hb := B.bytes
  have hr := B.returns
  have hts : ∀ w ∈ TT, w.before _ s = true := fun w h => atoms_spec (ws := ww yX9_isWord cX9_isWord 3 (some .boolean)) B.pre w (List.mem_cons_of_mem _ h)
  have hown : s.vm.findClass RX9 = some m.cls := findClass_of_methodNamed B.named
  have hlocks := B.notSynchronized
  subst hsz
  have hD := hD0.self (sz := s.heap.size)
  generalize hAe : va_A [(ob, .inr (9, [.int obv0, .int obv1, .int obv2, .ref obd, .ref ob_4, .int obv5, .int obv6, .int obv7, .int obv8])), (ob_4, .inl (k 1, 1000, .inl obg4))] s.heap.size = A at hD hStr ⊢
  have hLw := lenS_le wi hwi
  have hA : ∀ q : Nat, s.heap.size ≤ q → A q := fun q h => by rw [← hAe]; exact Or.inr h
  have hS : va_S A s.heap s.heap [] := va_S.rf
  have hl := lv_entry ([.ref ob, .ref (adK wi)]) (n := 3) (Nat.le_of_ble_eq_true rfl)
  rw [lg_entry_eq]
  generalize (lg_sl ([.ref ob, .ref (adK wi)]) ++ List.replicate (3 - (lg_sl ([.ref ob, .ref (adK wi)])).length) Slot.unset).toArray = ls at hl ⊢
  have hl : lv_has ls 3 [(0, .ref ob), (1, .ref (adK wi))] := hl
  refine lv_aload_n hx hb dX9_isWord_0 rfl (lv_at hl 0 rfl) ?_
  refine va_get (D := D) (ci := 9) (v := .int obv5) (C := RX9) (T := TX9) (N := 9) hx hb hts iT_X9 hown hK hP 0 rfl rfl 5 (by decide) (hts _ tw_1_204) (fun _ h9 => h9) rfl dX9_isWord_1 ?_
  refine lv_iconst (v := 1) hx hb dX9_isWord_4 (by decide) ?_
  refine lv_icmp_ne (tgt := 24) hx hb dX9_isWord_5 (by decide) (fun h_1 => ?_) (fun h_1 => ?_)
  · skip
    have zh_1 : ¬ obv5.toInt = 1 := z_ne h_1
    refine lv_iconst (v := 0) hx hb dX9_isWord_24 (by decide) ?_
    obtain ⟨hP9, hD9⟩ := sub2 hP hD (ws' := [(ob, .inr (9, [.int obv0, .int obv1, .int obv2, .ref obd, .ref ob_4, .int obv5, .int obv6, .int obv7, .int obv8])), (ob_4, .inl (k 1, 1000, .inl obg4))]) [0, 1] (by decide +kernel) rfl
    exact W.zret (v := 0) hx hb hr (by decide) (fun tZ ht hW => ⟨⟨0, (), rfl, (show 0 ≤ 0 ∧ 0 ≤ 1 from by omega), by rw [ht]; exact hP9, va_K.moved hW.alike hK, hD9⟩, hS.F ht⟩) hS.2.2 dX9_isWord_25
  · skip
    have zh_1 : obv5.toInt = 1 := z_eq h_1
    refine lv_aload_n hx hb dX9_isWord_8 rfl (lv_at hl 0 rfl) ?_
    refine va_get (D := D) (ci := 9) (v := .int obv7) (C := RX9) (T := TX9) (N := 9) hx hb hts iT_X9 hown hK hP 0 rfl rfl 7 (by decide) (hts _ tw_1_206) (fun _ h9 => h9) rfl dX9_isWord_9 ?_
    refine lv_aload_n hx hb dX9_isWord_12 rfl (lv_at hl 0 rfl) ?_
    refine va_get (D := D) (ci := 9) (v := .int obv6) (C := RX9) (T := TX9) (N := 9) hx hb hts iT_X9 hown hK hP 0 rfl rfl 6 (by decide) (hts _ tw_1_205) (fun _ h9 => h9) rfl dX9_isWord_13 ?_
    refine lv_isub hx hb dX9_isWord_16 ?_
    refine lv_topi (fun x_2 ex_2 => ?_)
    have zrobv7 := z_rng obv7
    have zrobv6 := z_rng obv6
    refine lv_aload_n hx hb dX9_isWord_17 rfl (lv_at hl 1 rfl) ?_
    obtain ⟨hPc, hDc, hFc⟩ := sub3 hP hD hS hA (ws' := []) [] (by decide +kernel) rfl
    refine va_calli (va_runV (C := "java/lang/String") (As := []) (rest := [.int x_2]) ⟨hx, hb, hml, hown, hts⟩ (c_J0_length_8abf5 l D k adK adV vF wi s.heap.size hwi) (cwV 0 hts (gV tw_3_28 tw_3_29 tw_3_30 tw_1_15 tw_3_31) rfl rfl rfl hdV_J0_length_8abf5 ⟨Nat.le_of_ble_eq_true rfl, Nat.le_of_ble_eq_true rfl⟩) (cz_VS hK hPc hDc hN hStr hS hFc hwi []) rfl rfl hl.1 rfl (lv_room (Nat.le_of_ble_eq_true rfl)) dX9_isWord_18 ⟨Nat.le_of_ble_eq_true rfl, Nat.le_of_ble_eq_true rfl⟩) hS (fun q _ h => hFc q h) hFc (fun r_3 uZ tZ H1 locs ht hvm hw hB hz1 hk1 hS => ?_)
    obtain ⟨hP1, hK1, hD1⟩ := hB
    rw [ht] at hP1
    obtain ⟨hP, hD⟩ := va_join (wr := [(ob, .inr (9, [.int obv0, .int obv1, .int obv2, .ref obd, .ref ob_4, .int obv5, .int obv6, .int obv7, .int obv8])), (ob_4, .inl (k 1, 1000, .inl obg4))]) (w1 := []) hP hD [] [0, 1] rfl rfl (by decide +kernel) (by decide +kernel) hk1 hFc hP1 hD1
    clear hK1 hP1 hD1 hPc hDc hFc
    clear hk1 hz1 ht hvm
    have hP : va_P D vwCl [(ob, .inr (9, [.int obv0, .int obv1, .int obv2, .ref obd, .ref ob_4, .int obv5, .int obv6, .int obv7, .int obv8])), (ob_4, .inl (k 1, 1000, .inl obg4))] H1 := hP
    have hD : va_D A [(ob, .inr (9, [.int obv0, .int obv1, .int obv2, .ref obd, .ref ob_4, .int obv5, .int obv6, .int obv7, .int obv8])), (ob_4, .inl (k 1, 1000, .inl obg4))] := hD
    generalize H1 = H at hP hS ⊢
    have hw_4 : (0 ≤ r_3.toInt ∧ r_3.toInt ≤ 8) ∧ (r_3 = nI (lenS.getD wi 0)) ∧ (r_3.toInt = ((lenS.getD wi 0 : Nat) : Int)) := hw
    obtain ⟨hw_5, hw_6, hw_7⟩ := hw_4
    clear hw
    refine lv_icmp_eq (tgt := 26) hx hb dX9_isWord_21 (by decide) (fun h_8 => ?_) (fun h_8 => ?_)
    · skip
      have zh_8 : x_2.toInt = r_3.toInt := z_eq h_8
      refine lv_iconst (v := 0) hx hb dX9_isWord_26 (by decide) ?_
      refine lv_istore_n (lv' := [(2, .int 0), (0, .ref ob), (1, .ref (adK wi))]) hx hb dX9_isWord_27 rfl hl (by decide) rfl (fun ls hl => ?_)
      refine loop_r (Wg := fun H locs ls => W p l e _ s m _ below meth c H locs _ _ _ (F0 m 28 ls [])) (fun n9 H locs ls => ∃ (L28l2 : Int32), n9 = (8 - L28l2.toInt).toNat ∧ (0 ≤ L28l2.toInt ∧ L28l2.toInt ≤ 8) ∧ va_P D vwCl [(ob, .inr (9, [.int obv0, .int obv1, .int obv2, .ref obd, .ref ob_4, .int obv5, .int obv6, .int obv7, .int obv8])), (ob_4, .inl (k 1, 1000, .inl obg4))] H ∧ va_D A [(ob, .inr (9, [.int obv0, .int obv1, .int obv2, .ref obd, .ref ob_4, .int obv5, .int obv6, .int obv7, .int obv8])), (ob_4, .inl (k 1, 1000, .inl obg4))] ∧ va_S A s.heap H locs ∧ lv_has ls 3 [(0, .ref ob), (1, .ref (adK wi)), (2, .int L28l2)]) (fun n9 H locs ls hI ih_9 => ?_) _ _ _ _ ⟨0, rfl, (show 0 ≤ 0 ∧ 0 ≤ 8 from by omega), hP.sub (ws' := [(ob, .inr (9, [.int obv0, .int obv1, .int obv2, .ref obd, .ref ob_4, .int obv5, .int obv6, .int obv7, .int obv8])), (ob_4, .inl (k 1, 1000, .inl obg4))]) [0, 1] rfl, hD.sub (ws' := [(ob, .inr (9, [.int obv0, .int obv1, .int obv2, .ref obd, .ref ob_4, .int obv5, .int obv6, .int obv7, .int obv8])), (ob_4, .inl (k 1, 1000, .inl obg4))]) [0, 1] (by decide +kernel) rfl, hS, lv_sub hl [1, 2, 0] rfl⟩
      clear hP hD hS hl
      obtain ⟨L28l2, en_10, zL28l2, hP, hD, hS, hl⟩ := hI
      refine lv_iload_n hx hb dX9_isWord_28 rfl (lv_at hl 2 rfl) ?_
      refine lv_aload_n hx hb dX9_isWord_29 rfl (lv_at hl 1 rfl) ?_
      obtain ⟨hPc, hDc, hFc⟩ := sub3 hP hD hS hA (ws' := []) [] (by decide +kernel) rfl
      refine va_calli (va_runV (C := "java/lang/String") (As := []) (rest := [.int L28l2]) ⟨hx, hb, hml, hown, hts⟩ (c_J0_length_8abf5 l D k adK adV vF wi H.size hwi) (cwV 0 hts (gV tw_3_28 tw_3_29 tw_3_30 tw_1_15 tw_3_31) rfl rfl rfl hdV_J0_length_8abf5 ⟨Nat.le_of_ble_eq_true rfl, Nat.le_of_ble_eq_true rfl⟩) (cz_VS hK hPc hDc hN hStr hS hFc hwi []) rfl rfl hl.1 rfl (lv_room (Nat.le_of_ble_eq_true rfl)) dX9_isWord_30 ⟨Nat.le_of_ble_eq_true rfl, Nat.le_of_ble_eq_true rfl⟩) hS (fun q _ h => hFc q h) hFc (fun r_11 uZ tZ H1 locs ht hvm hw hB hz1 hk1 hS => ?_)
      obtain ⟨hP1, hK1, hD1⟩ := hB
      rw [ht] at hP1
      obtain ⟨hP, hD⟩ := va_join (wr := [(ob, .inr (9, [.int obv0, .int obv1, .int obv2, .ref obd, .ref ob_4, .int obv5, .int obv6, .int obv7, .int obv8])), (ob_4, .inl (k 1, 1000, .inl obg4))]) (w1 := []) hP hD [] [0, 1] rfl rfl (by decide +kernel) (by decide +kernel) hk1 hFc hP1 hD1
      clear hK1 hP1 hD1 hPc hDc hFc
      clear hk1 hz1 ht hvm
      have hP : va_P D vwCl [(ob, .inr (9, [.int obv0, .int obv1, .int obv2, .ref obd, .ref ob_4, .int obv5, .int obv6, .int obv7, .int obv8])), (ob_4, .inl (k 1, 1000, .inl obg4))] H1 := hP
      have hD : va_D A [(ob, .inr (9, [.int obv0, .int obv1, .int obv2, .ref obd, .ref ob_4, .int obv5, .int obv6, .int obv7, .int obv8])), (ob_4, .inl (k 1, 1000, .inl obg4))] := hD
      generalize H1 = H at hP hS ⊢
      have hw_12 : (0 ≤ r_11.toInt ∧ r_11.toInt ≤ 8) ∧ (r_11 = nI (lenS.getD wi 0)) ∧ (r_11.toInt = ((lenS.getD wi 0 : Nat) : Int)) := hw
      obtain ⟨hw_13, hw_14, hw_15⟩ := hw_12
      clear hw
      obtain rfl : r_3 = r_11 := hw_6.trans hw_14.symm
      refine lv_icmp_ge (tgt := 62) hx hb dX9_isWord_33 (by decide) (fun h_16 => ?_) (fun h_16 => ?_)
      · skip
        have zh_16 : r_3.toInt ≤ L28l2.toInt := z_le h_16
        refine lv_iconst (v := 1) hx hb dX9_isWord_62 (by decide) ?_
        obtain ⟨hP9, hD9⟩ := sub2 hP hD (ws' := [(ob, .inr (9, [.int obv0, .int obv1, .int obv2, .ref obd, .ref ob_4, .int obv5, .int obv6, .int obv7, .int obv8])), (ob_4, .inl (k 1, 1000, .inl obg4))]) [0, 1] (by decide +kernel) rfl
        exact W.zret (v := 1) hx hb hr (by decide) (fun tZ ht hW => ⟨⟨1, (), rfl, (show 0 ≤ 1 ∧ 1 ≤ 1 from by omega), by rw [ht]; exact hP9, va_K.moved hW.alike hK, hD9⟩, hS.F ht⟩) hS.2.2 dX9_isWord_63
      · skip
        have zh_16 : L28l2.toInt < r_3.toInt := z_nle h_16
        refine lv_aload_n hx hb dX9_isWord_36 rfl (lv_at hl 0 rfl) ?_
        refine lv_aload_n hx hb dX9_isWord_37 rfl (lv_at hl 0 rfl) ?_
        refine va_get (D := D) (ci := 9) (v := .int obv6) (C := RX9) (T := TX9) (N := 9) hx hb hts iT_X9 hown hK hP 0 rfl rfl 6 (by decide) (hts _ tw_1_205) (fun _ h9 => h9) rfl dX9_isWord_38 ?_
        refine lv_iload_n hx hb dX9_isWord_41 rfl (lv_at hl 2 rfl) ?_
        refine lv_iadd hx hb dX9_isWord_42 ?_
        refine lv_topi (fun x_17 ex_17 => ?_)
        obtain ⟨hPc, hDc, hFc⟩ := sub3 hP hD hS hA (ws' := [(ob, .inr (9, [.int obv0, .int obv1, .int obv2, .ref obd, .ref ob_4, .int obv5, .int obv6, .int obv7, .int obv8])), (ob_4, .inl (k 1, 1000, .inl obg4))]) [0, 1] (by decide +kernel) rfl
        refine va_calli (va_runV (C := RX9) (As := [.int x_17]) (rest := []) ⟨hx, hb, hml, hown, hts⟩ (c_X9_byteAt l D k ob x_17 obv0 obv1 obv2 obd ob_4 obv5 obv6 obv7 obv8 obg4 H.size (show 0 ≤ obv0.toInt ∧ obv0.toInt ≤ 1000 from by omega)) (cwV 1 hts (gV tw_3_2 tw_3_4 tw_p_1 tw_1_2 tw_3_5) rfl rfl rfl hdV_X9_byteAt ⟨Nat.le_of_ble_eq_true rfl, Nat.le_of_ble_eq_true rfl⟩) (cz_V hK hPc hDc hN (ci := 9) (q0 := 0) rfl rfl [.int x_17]) rfl rfl hl.1 rfl (lv_room (Nat.le_of_ble_eq_true rfl)) dX9_isWord_43 ⟨Nat.le_of_ble_eq_true rfl, Nat.le_of_ble_eq_true rfl⟩) hS (fun q _ h => hFc q h) hFc (fun r_18 uZ tZ H1 locs ht hvm hw hB hz1 hk1 hS => ?_)
        obtain ⟨hP1, hK1, hD1⟩ := hB
        rw [ht] at hP1
        obtain ⟨hP, hD⟩ := va_join (wr := []) (w1 := [(ob, .inr (9, [.int obv0, .int obv1, .int obv2, .ref obd, .ref ob_4, .int obv5, .int obv6, .int obv7, .int obv8])), (ob_4, .inl (k 1, 1000, .inl obg4))]) hP hD [0, 1] [] rfl rfl (by decide +kernel) (by decide +kernel) hk1 hFc hP1 hD1
        clear hK1 hP1 hD1 hPc hDc hFc
        clear hk1 hz1 ht hvm
        have hP : va_P D vwCl [(ob, .inr (9, [.int obv0, .int obv1, .int obv2, .ref obd, .ref ob_4, .int obv5, .int obv6, .int obv7, .int obv8])), (ob_4, .inl (k 1, 1000, .inl obg4))] H1 := hP
        have hD : va_D A [(ob, .inr (9, [.int obv0, .int obv1, .int obv2, .ref obd, .ref ob_4, .int obv5, .int obv6, .int obv7, .int obv8])), (ob_4, .inl (k 1, 1000, .inl obg4))] := hD
        generalize H1 = H at hP hS ⊢
        clear hw
        refine lv_aload_n hx hb dX9_isWord_46 rfl (lv_at hl 1 rfl) ?_
        refine lv_iload_n hx hb dX9_isWord_47 rfl (lv_at hl 2 rfl) ?_
        obtain ⟨hPc, hDc, hFc⟩ := sub3 hP hD hS hA (ws' := []) [] (by decide +kernel) rfl
        refine va_calli (va_runV (C := "java/lang/String") (As := [.int L28l2]) (rest := [.int r_18]) ⟨hx, hb, hml, hown, hts⟩ (c_J0_charAt_5068e l D k adK adV vF wi L28l2 H.size hwi (show 0 ≤ L28l2.toInt ∧ L28l2.toInt ≤ 7 from by omega) (show L28l2.toInt < ((lenS.getD wi 0 : Nat) : Int) from by omega)) (cwV 1 hts (gV tw_3_38 tw_3_39 tw_3_40 tw_1_15 tw_3_41) rfl rfl rfl hdV_J0_charAt_5068e ⟨Nat.le_of_ble_eq_true rfl, Nat.le_of_ble_eq_true rfl⟩) (cz_VS hK hPc hDc hN hStr hS hFc hwi [.int L28l2]) rfl rfl hl.1 rfl (lv_room (Nat.le_of_ble_eq_true rfl)) dX9_isWord_48 ⟨Nat.le_of_ble_eq_true rfl, Nat.le_of_ble_eq_true rfl⟩) hS (fun q _ h => hFc q h) hFc (fun r_20 uZ tZ H1 locs ht hvm hw hB hz1 hk1 hS => ?_)
        obtain ⟨hP1, hK1, hD1⟩ := hB
        rw [ht] at hP1
        obtain ⟨hP, hD⟩ := va_join (wr := [(ob, .inr (9, [.int obv0, .int obv1, .int obv2, .ref obd, .ref ob_4, .int obv5, .int obv6, .int obv7, .int obv8])), (ob_4, .inl (k 1, 1000, .inl obg4))]) (w1 := []) hP hD [] [0, 1] rfl rfl (by decide +kernel) (by decide +kernel) hk1 hFc hP1 hD1
        clear hK1 hP1 hD1 hPc hDc hFc
        clear hk1 hz1 ht hvm
        have hP : va_P D vwCl [(ob, .inr (9, [.int obv0, .int obv1, .int obv2, .ref obd, .ref ob_4, .int obv5, .int obv6, .int obv7, .int obv8])), (ob_4, .inl (k 1, 1000, .inl obg4))] H1 := hP
        have hD : va_D A [(ob, .inr (9, [.int obv0, .int obv1, .int obv2, .ref obd, .ref ob_4, .int obv5, .int obv6, .int obv7, .int obv8])), (ob_4, .inl (k 1, 1000, .inl obg4))] := hD
        generalize H1 = H at hP hS ⊢
        have hw_21 : (0 ≤ r_20.toInt ∧ r_20.toInt ≤ 255) ∧ (narrow .char (.int r_20) = .int r_20) := hw
        obtain ⟨hw_22, hw_23⟩ := hw_21
        clear hw
        refine lv_icmp_eq (tgt := 56) hx hb dX9_isWord_51 (by decide) (fun h_24 => ?_) (fun h_24 => ?_)
        · skip
          have zh_24 : r_18.toInt = r_20.toInt := z_eq h_24
          obtain ⟨x_25, ex_25⟩ : ∃ y : Int32, y = L28l2 + 1 := ⟨_, rfl⟩
          have zx_25 : x_25.toInt = L28l2.toInt + 1 := by rw [ex_25]; exact z_add rfl rfl (by omega) (by omega)
          refine lv_iinc (v := x_25) (lv' := [(2, .int x_25), (0, .ref ob), (1, .ref (adK wi))]) hx hb dX9_isWord_56 hl (k := 2) rfl (by rw [ex_25]; rfl) (by decide) rfl (fun ls hl => ?_)
          refine lv_goto (tgt := 28) hx hb dX9_isWord_59 (by decide) ?_
          exact ih_9 _ _ _ _ (by omega) ⟨x_25, rfl, (show 0 ≤ x_25.toInt ∧ x_25.toInt ≤ 8 from by omega), hP.sub (ws' := [(ob, .inr (9, [.int obv0, .int obv1, .int obv2, .ref obd, .ref ob_4, .int obv5, .int obv6, .int obv7, .int obv8])), (ob_4, .inl (k 1, 1000, .inl obg4))]) [0, 1] rfl, hD.sub (ws' := [(ob, .inr (9, [.int obv0, .int obv1, .int obv2, .ref obd, .ref ob_4, .int obv5, .int obv6, .int obv7, .int obv8])), (ob_4, .inl (k 1, 1000, .inl obg4))]) [0, 1] (by decide +kernel) rfl, hS, lv_sub hl [1, 2, 0] rfl⟩
        · skip
          have zh_24 : ¬ r_18.toInt = r_20.toInt := z_ne h_24
          refine lv_iconst (v := 0) hx hb dX9_isWord_54 (by decide) ?_
          obtain ⟨hP9, hD9⟩ := sub2 hP hD (ws' := [(ob, .inr (9, [.int obv0, .int obv1, .int obv2, .ref obd, .ref ob_4, .int obv5, .int obv6, .int obv7, .int obv8])), (ob_4, .inl (k 1, 1000, .inl obg4))]) [0, 1] (by decide +kernel) rfl
          exact W.zret (v := 0) hx hb hr (by decide) (fun tZ ht hW => ⟨⟨0, (), rfl, (show 0 ≤ 0 ∧ 0 ≤ 1 from by omega), by rw [ht]; exact hP9, va_K.moved hW.alike hK, hD9⟩, hS.F ht⟩) hS.2.2 dX9_isWord_55
    · skip
      have zh_8 : ¬ x_2.toInt = r_3.toInt := z_ne h_8
      refine lv_iconst (v := 0) hx hb dX9_isWord_24 (by decide) ?_
      obtain ⟨hP9, hD9⟩ := sub2 hP hD (ws' := [(ob, .inr (9, [.int obv0, .int obv1, .int obv2, .ref obd, .ref ob_4, .int obv5, .int obv6, .int obv7, .int obv8])), (ob_4, .inl (k 1, 1000, .inl obg4))]) [0, 1] (by decide +kernel) rfl
      exact W.zret (v := 0) hx hb hr (by decide) (fun tZ ht hW => ⟨⟨0, (), rfl, (show 0 ≤ 0 ∧ 0 ≤ 1 from by omega), by rw [ht]; exact hP9, va_K.moved hW.alike hK, hD9⟩, hS.F ht⟩) hS.2.2 dX9_isWord_25
set_option maxHeartbeats 4000000 in
set_option maxRecDepth 100000 in
theorem c_X9_refuse (l : Launch) (D : va_G) (k : Nat → ClassId) (ob : Nat) (p0 : Int32) (obv0 : Int32) (obv1 : Int32) (obv2 : Int32) (obd : Nat) (ob_4 : Nat) (obv5 : Int32) (obv6 : Int32) (obv7 : Int32) (obv8 : Int32) (sz : Nat) (h_obv0 : 0 ≤ obv0.toInt ∧ obv0.toInt ≤ 1000) : Met l yX9_refuse (ww yX9_refuse cX9_refuse 2 (some .boolean)) ({ frames := 0, cells := 0, slots := 0, locals := 0 }) (Pre0 D k [(ob, .inr (9, [.int obv0, .int obv1, .int obv2, .ref obd, .ref ob_4, .int obv5, .int obv6, .int obv7, .int obv8]))] sz [.ref ob, .int p0]) (va_Qi (fun (r : Int32) (u : Int32 × Int32) => match u with | (obv1z, obv2z) => (0 ≤ r.toInt ∧ r.toInt ≤ 0)) (fun (u : Int32 × Int32) tZ => match u with | (obv1z, obv2z) => Bw D k (va_A [(ob, .inr (9, [.int obv0, .int obv1, .int obv2, .ref obd, .ref ob_4, .int obv5, .int obv6, .int obv7, .int obv8]))] sz) [(ob, .inr (9, [.int obv0, .int obv1z, .int obv2z, .ref obd, .ref ob_4, .int obv5, .int obv6, .int obv7, .int obv8]))] tZ) (va_A [(ob, .inr (9, [.int obv0, .int obv1, .int obv2, .ref obd, .ref ob_4, .int obv5, .int obv6, .int obv7, .int obv8]))] sz)) 0 0 (va_A [(ob, .inr (9, [.int obv0, .int obv1, .int obv2, .ref obd, .ref ob_4, .int obv5, .int obv6, .int obv7, .int obv8]))] sz) := by
  refine Met.ofW (cc := cX9_refuse) (maxL := 2) (ret := (some .boolean)) (by decide +kernel) rfl ?_
  intro p e s m args below meth c s₁ B hml hv
  obtain ⟨rfl, hsz, hP, hK, hD0, hN⟩ := hv
  have hx := B.exec
  have hb := B.bytes
  have hr := B.returns
  have hts : ∀ w ∈ TT, w.before _ s = true := fun w h => atoms_spec (ws := ww yX9_refuse cX9_refuse 2 (some .boolean)) B.pre w (List.mem_cons_of_mem _ h)
  have hown : s.vm.findClass RX9 = some m.cls := findClass_of_methodNamed B.named
  have hlocks := B.notSynchronized
  subst hsz
  have hD := hD0.self (sz := s.heap.size)
  generalize hAe : va_A [(ob, .inr (9, [.int obv0, .int obv1, .int obv2, .ref obd, .ref ob_4, .int obv5, .int obv6, .int obv7, .int obv8]))] s.heap.size = A at hD ⊢
  have hA : ∀ q : Nat, s.heap.size ≤ q → A q := fun q h => by rw [← hAe]; exact Or.inr h
  have hS : va_S A s.heap s.heap [] := va_S.rf
  have hl := lv_entry ([.ref ob, .int p0]) (n := 2) (Nat.le_of_ble_eq_true rfl)
  rw [lg_entry_eq]
  generalize (lg_sl ([.ref ob, .int p0]) ++ List.replicate (2 - (lg_sl ([.ref ob, .int p0])).length) Slot.unset).toArray = ls at hl ⊢
  have hl : lv_has ls 2 [(0, .ref ob), (1, .int p0)] := hl
  refine lv_aload_n hx hb dX9_refuse_0 rfl (lv_at hl 0 rfl) ?_
  refine lv_iload_n hx hb dX9_refuse_1 rfl (lv_at hl 1 rfl) ?_
  refine va_put (D := D) (ci := 9) (v := .int p0) (ty := tyX9 1) (C := RX9) (T := TX9) (N := 9) hx hb hts iT_X9 tyX9 tyX9_ok nmX9 hown hK hP hD hS 0 rfl rfl 1 (by decide) (hts _ tw_1_197) (fun _ h9 => h9) rfl (tyX9_ok 1 (by decide)) rfl rfl (Nat.le_of_ble_eq_true rfl) dX9_refuse_2 (fun H locs hP hD hS => ?_)
  have hP : va_P D vwCl [(ob, .inr (9, [.int obv0, .int p0, .int obv2, .ref obd, .ref ob_4, .int obv5, .int obv6, .int obv7, .int obv8]))] H := hP
  have hD : va_D A [(ob, .inr (9, [.int obv0, .int p0, .int obv2, .ref obd, .ref ob_4, .int obv5, .int obv6, .int obv7, .int obv8]))] := hD
  refine lv_aload_n hx hb dX9_refuse_5 rfl (lv_at hl 0 rfl) ?_
  refine lv_aload_n hx hb dX9_refuse_6 rfl (lv_at hl 0 rfl) ?_
  refine va_get (D := D) (ci := 9) (v := .int obv6) (C := RX9) (T := TX9) (N := 9) hx hb hts iT_X9 hown hK hP 0 rfl rfl 6 (by decide) (hts _ tw_1_205) (fun _ h9 => h9) rfl dX9_refuse_7 ?_
  refine va_put (D := D) (ci := 9) (v := .int obv6) (ty := tyX9 2) (C := RX9) (T := TX9) (N := 9) hx hb hts iT_X9 tyX9 tyX9_ok nmX9 hown hK hP hD hS 0 rfl rfl 2 (by decide) (hts _ tw_1_199) (fun _ h9 => h9) rfl (tyX9_ok 2 (by decide)) rfl rfl (Nat.le_of_ble_eq_true rfl) dX9_refuse_10 (fun H locs hP hD hS => ?_)
  have hP : va_P D vwCl [(ob, .inr (9, [.int obv0, .int p0, .int obv6, .ref obd, .ref ob_4, .int obv5, .int obv6, .int obv7, .int obv8]))] H := hP
  have hD : va_D A [(ob, .inr (9, [.int obv0, .int p0, .int obv6, .ref obd, .ref ob_4, .int obv5, .int obv6, .int obv7, .int obv8]))] := hD
  refine lv_iconst (v := 0) hx hb dX9_refuse_13 (by decide) ?_
  obtain ⟨hP9, hD9⟩ := sub2 hP hD (ws' := [(ob, .inr (9, [.int obv0, .int p0, .int obv6, .ref obd, .ref ob_4, .int obv5, .int obv6, .int obv7, .int obv8]))]) [0] (by decide +kernel) rfl
  exact W.zret (v := 0) hx hb hr (by decide) (fun tZ ht hW => ⟨⟨0, (p0, obv6), rfl, (show 0 ≤ 0 ∧ 0 ≤ 0 from by omega), by rw [ht]; exact hP9, va_K.moved hW.alike hK, hD9⟩, hS.F ht⟩) hS.2.2 dX9_refuse_14
set_option maxHeartbeats 4000000 in
set_option maxRecDepth 100000 in
theorem c_X9_takesWord (l : Launch) (D : va_G) (k : Nat → ClassId) (adK : Nat → Nat) (adV : Nat → Nat) (vF : Value) (wi : Nat) (ob : Nat) (obv0 : Int32) (obv1 : Int32) (obv2 : Int32) (obd : Nat) (ob_4 : Nat) (obv5 : Int32) (obv6 : Int32) (obv7 : Int32) (obv8 : Int32) (obg4 : Nat → Int32) (sz : Nat) (hwi : wi < 16) (h_obv0 : 0 ≤ obv0.toInt ∧ obv0.toInt ≤ 1000) (h_obv7 : 0 ≤ obv7.toInt ∧ obv7.toInt ≤ 1000) : Met l yX9_takesWord (ww yX9_takesWord cX9_takesWord 2 (some .boolean)) ({ frames := 5, cells := 0, slots := 0, locals := 107 }) (Pre1 D k adK adV vF [(ob, .inr (9, [.int obv0, .int obv1, .int obv2, .ref obd, .ref ob_4, .int obv5, .int obv6, .int obv7, .int obv8])), (ob_4, .inl (k 1, 1000, .inl obg4))] sz [.ref ob, .ref (adK wi)]) (va_Qi (fun (r : Int32) (u : Int32 × Int32 × Int32 × Int32 × Int32 × Int32) => match u with | (obv5z, obv6z, obv7z, obv8z, obv1z, obv2z) => (0 ≤ r.toInt ∧ r.toInt ≤ 1) ∧ (0 ≤ obv5z.toInt ∧ obv5z.toInt ≤ 4) ∧ (0 ≤ obv6z.toInt ∧ obv6z.toInt ≤ 1000) ∧ (0 ≤ obv7z.toInt ∧ obv7z.toInt ≤ 1000) ∧ ((-2147483648) ≤ obv8z.toInt ∧ obv8z.toInt ≤ 1000000)) (fun (u : Int32 × Int32 × Int32 × Int32 × Int32 × Int32) tZ => match u with | (obv5z, obv6z, obv7z, obv8z, obv1z, obv2z) => Bw D k (va_A [(ob, .inr (9, [.int obv0, .int obv1, .int obv2, .ref obd, .ref ob_4, .int obv5, .int obv6, .int obv7, .int obv8])), (ob_4, .inl (k 1, 1000, .inl obg4))] sz) [(ob, .inr (9, [.int obv0, .int obv1z, .int obv2z, .ref obd, .ref ob_4, .int obv5z, .int obv6z, .int obv7z, .int obv8z])), (ob_4, .inl (k 1, 1000, .inl obg4))] tZ) (va_A [(ob, .inr (9, [.int obv0, .int obv1, .int obv2, .ref obd, .ref ob_4, .int obv5, .int obv6, .int obv7, .int obv8])), (ob_4, .inl (k 1, 1000, .inl obg4))] sz)) 0 0 (va_A [(ob, .inr (9, [.int obv0, .int obv1, .int obv2, .ref obd, .ref ob_4, .int obv5, .int obv6, .int obv7, .int obv8])), (ob_4, .inl (k 1, 1000, .inl obg4))] sz) := by
  refine Met.ofW (cc := cX9_takesWord) (maxL := 2) (ret := (some .boolean)) (by decide +kernel) rfl ?_
  intro p e s m args below meth c s₁ B hml hv
  obtain ⟨rfl, hsz, hP, hK, hD0, hN, hStr⟩ := hv
  have hx := B.exec
  have hb := B.bytes
  have hr := B.returns
  have hts : ∀ w ∈ TT, w.before _ s = true := fun w h => atoms_spec (ws := ww yX9_takesWord cX9_takesWord 2 (some .boolean)) B.pre w (List.mem_cons_of_mem _ h)
  have hown : s.vm.findClass RX9 = some m.cls := findClass_of_methodNamed B.named
  have hlocks := B.notSynchronized
  subst hsz
  have hD := hD0.self (sz := s.heap.size)
  generalize hAe : va_A [(ob, .inr (9, [.int obv0, .int obv1, .int obv2, .ref obd, .ref ob_4, .int obv5, .int obv6, .int obv7, .int obv8])), (ob_4, .inl (k 1, 1000, .inl obg4))] s.heap.size = A at hD hStr ⊢
  have hLw := lenS_le wi hwi
  have hA : ∀ q : Nat, s.heap.size ≤ q → A q := fun q h => by rw [← hAe]; exact Or.inr h
  have hS : va_S A s.heap s.heap [] := va_S.rf
  have hl := lv_entry ([.ref ob, .ref (adK wi)]) (n := 2) (Nat.le_of_ble_eq_true rfl)
  rw [lg_entry_eq]
  generalize (lg_sl ([.ref ob, .ref (adK wi)]) ++ List.replicate (2 - (lg_sl ([.ref ob, .ref (adK wi)])).length) Slot.unset).toArray = ls at hl ⊢
  have hl : lv_has ls 2 [(0, .ref ob), (1, .ref (adK wi))] := hl
  refine lv_aload_n hx hb dX9_takesWord_0 rfl (lv_at hl 0 rfl) ?_
  obtain ⟨hPc, hDc, hFc⟩ := sub3 hP hD hS hA (ws' := [(ob, .inr (9, [.int obv0, .int obv1, .int obv2, .ref obd, .ref ob_4, .int obv5, .int obv6, .int obv7, .int obv8])), (ob_4, .inl (k 1, 1000, .inl obg4))]) [0, 1] (by decide +kernel) rfl
  refine va_callv (va_runV (C := RX9) (As := []) (rest := []) ⟨hx, hb, hml, hown, hts⟩ (c_X9_advance l D k ob obv0 obv1 obv2 obd ob_4 obv5 obv6 obv7 obv8 obg4 s.heap.size (show 0 ≤ obv0.toInt ∧ obv0.toInt ≤ 1000 from by omega) (show 0 ≤ obv7.toInt ∧ obv7.toInt ≤ 1000 from by omega)) (cwV 0 hts (gV tw_2_238 tw_3_0 tw_p_0 tw_1_2 tw_3_1) rfl rfl rfl hdV_X9_advance ⟨Nat.le_of_ble_eq_true rfl, Nat.le_of_ble_eq_true rfl⟩) (cz_V hK hPc hDc hN (ci := 9) (q0 := 0) rfl rfl []) rfl rfl hl.1 rfl (lv_room (Nat.le_of_ble_eq_true rfl)) dX9_takesWord_1 ⟨Nat.le_of_ble_eq_true rfl, Nat.le_of_ble_eq_true rfl⟩) hS (fun q _ h => hFc q h) hFc (fun uZ tZ H1 locs ht hvm hw hB hz1 hk1 hS => ?_)
  obtain ⟨o_2, o_3, o_4, o_5⟩ := uZ
  obtain ⟨hP1, hK1, hD1⟩ := hB
  rw [ht] at hP1
  obtain ⟨hP, hD⟩ := va_join (wr := []) (w1 := [(ob, .inr (9, [.int obv0, .int obv1, .int obv2, .ref obd, .ref ob_4, .int o_2, .int o_3, .int o_4, .int o_5])), (ob_4, .inl (k 1, 1000, .inl obg4))]) hP hD [0, 1] [] rfl rfl (by decide +kernel) (by decide +kernel) hk1 hFc hP1 hD1
  clear hK1 hP1 hD1 hPc hDc hFc
  clear hk1 hz1 ht hvm
  have hP : va_P D vwCl [(ob, .inr (9, [.int obv0, .int obv1, .int obv2, .ref obd, .ref ob_4, .int o_2, .int o_3, .int o_4, .int o_5])), (ob_4, .inl (k 1, 1000, .inl obg4))] H1 := hP
  have hD : va_D A [(ob, .inr (9, [.int obv0, .int obv1, .int obv2, .ref obd, .ref ob_4, .int o_2, .int o_3, .int o_4, .int o_5])), (ob_4, .inl (k 1, 1000, .inl obg4))] := hD
  generalize H1 = H at hP hS ⊢
  have hw_6 : (0 ≤ o_2.toInt ∧ o_2.toInt ≤ 4) ∧ (0 ≤ o_3.toInt ∧ o_3.toInt ≤ 1000) ∧ (0 ≤ o_4.toInt ∧ o_4.toInt ≤ 1000) ∧ ((-2147483648) ≤ o_5.toInt ∧ o_5.toInt ≤ 1000000) := hw
  obtain ⟨hw_7, hw_8, hw_9, hw_10⟩ := hw_6
  clear hw
  refine lv_aload_n hx hb dX9_takesWord_4 rfl (lv_at hl 0 rfl) ?_
  refine lv_aload_n hx hb dX9_takesWord_5 rfl (lv_at hl 1 rfl) ?_
  obtain ⟨hPc, hDc, hFc⟩ := sub3 hP hD hS hA (ws' := [(ob, .inr (9, [.int obv0, .int obv1, .int obv2, .ref obd, .ref ob_4, .int o_2, .int o_3, .int o_4, .int o_5])), (ob_4, .inl (k 1, 1000, .inl obg4))]) [0, 1] (by decide +kernel) rfl
  refine va_calli (va_runV (C := RX9) (As := [.ref (adK wi)]) (rest := []) ⟨hx, hb, hml, hown, hts⟩ (c_X9_isWord l D k adK adV vF wi ob obv0 obv1 obv2 obd ob_4 o_2 o_3 o_4 o_5 obg4 H.size hwi (show 0 ≤ obv0.toInt ∧ obv0.toInt ≤ 1000 from by omega)) (cwV 1 hts (gV tw_3_24 tw_3_26 tw_p_3 tw_1_2 tw_3_27) rfl rfl rfl hdV_X9_isWord ⟨Nat.le_of_ble_eq_true rfl, Nat.le_of_ble_eq_true rfl⟩) (cz_V1 hK hPc hDc hN hStr hS hFc (ci := 9) (q0 := 0) rfl rfl [.ref (adK wi)]) rfl rfl hl.1 rfl (lv_room (Nat.le_of_ble_eq_true rfl)) dX9_takesWord_6 ⟨Nat.le_of_ble_eq_true rfl, Nat.le_of_ble_eq_true rfl⟩) hS (fun q _ h => hFc q h) hFc (fun r_11 uZ tZ H1 locs ht hvm hw hB hz1 hk1 hS => ?_)
  obtain ⟨hP1, hK1, hD1⟩ := hB
  rw [ht] at hP1
  obtain ⟨hP, hD⟩ := va_join (wr := []) (w1 := [(ob, .inr (9, [.int obv0, .int obv1, .int obv2, .ref obd, .ref ob_4, .int o_2, .int o_3, .int o_4, .int o_5])), (ob_4, .inl (k 1, 1000, .inl obg4))]) hP hD [0, 1] [] rfl rfl (by decide +kernel) (by decide +kernel) hk1 hFc hP1 hD1
  clear hK1 hP1 hD1 hPc hDc hFc
  clear hk1 hz1 ht hvm
  have hP : va_P D vwCl [(ob, .inr (9, [.int obv0, .int obv1, .int obv2, .ref obd, .ref ob_4, .int o_2, .int o_3, .int o_4, .int o_5])), (ob_4, .inl (k 1, 1000, .inl obg4))] H1 := hP
  have hD : va_D A [(ob, .inr (9, [.int obv0, .int obv1, .int obv2, .ref obd, .ref ob_4, .int o_2, .int o_3, .int o_4, .int o_5])), (ob_4, .inl (k 1, 1000, .inl obg4))] := hD
  generalize H1 = H at hP hS ⊢
  have hw_12 : (0 ≤ r_11.toInt ∧ r_11.toInt ≤ 1) := hw
  have hw_13 := hw_12
  clear hw
  refine lv_if_ne (tgt := 20) hx hb dX9_takesWord_9 (by decide) (fun h_14 => ?_) (fun h_14 => ?_)
  · skip
    have zh_14 : ¬ r_11.toInt = 0 := z_ne h_14
    refine lv_iconst (v := 1) hx hb dX9_takesWord_20 (by decide) ?_
    refine lv_goto (tgt := 25) hx hb dX9_takesWord_21 (by decide) ?_
    obtain ⟨hP9, hD9⟩ := sub2 hP hD (ws' := [(ob, .inr (9, [.int obv0, .int obv1, .int obv2, .ref obd, .ref ob_4, .int o_2, .int o_3, .int o_4, .int o_5])), (ob_4, .inl (k 1, 1000, .inl obg4))]) [0, 1] (by decide +kernel) rfl
    exact W.zret (v := 1) hx hb hr (by decide) (fun tZ ht hW => ⟨⟨1, (o_2, o_3, o_4, o_5, obv1, obv2), rfl, ⟨(show 0 ≤ 1 ∧ 1 ≤ 1 from by omega), (show 0 ≤ o_2.toInt ∧ o_2.toInt ≤ 4 from by omega), (show 0 ≤ o_3.toInt ∧ o_3.toInt ≤ 1000 from by omega), (show 0 ≤ o_4.toInt ∧ o_4.toInt ≤ 1000 from by omega), (show (-2147483648) ≤ o_5.toInt ∧ o_5.toInt ≤ 1000000 from by have := z_rng o_5; omega)⟩, by rw [ht]; exact hP9, va_K.moved hW.alike hK, hD9⟩, hS.F ht⟩) hS.2.2 dX9_takesWord_25
  · skip
    have zh_14 : r_11.toInt = 0 := z_eq h_14
    refine lv_aload_n hx hb dX9_takesWord_12 rfl (lv_at hl 0 rfl) ?_
    refine lv_iconst (v := 1) hx hb dX9_takesWord_13 (by decide) ?_
    obtain ⟨hPc, hDc, hFc⟩ := sub3 hP hD hS hA (ws' := [(ob, .inr (9, [.int obv0, .int obv1, .int obv2, .ref obd, .ref ob_4, .int o_2, .int o_3, .int o_4, .int o_5]))]) [0] (by decide +kernel) rfl
    refine va_calli (va_runV (C := RX9) (As := [.int 1]) (rest := []) ⟨hx, hb, hml, hown, hts⟩ (c_X9_refuse l D k ob 1 obv0 obv1 obv2 obd ob_4 o_2 o_3 o_4 o_5 H.size (show 0 ≤ obv0.toInt ∧ obv0.toInt ≤ 1000 from by omega)) (cwV 1 hts (gV tw_3_85 tw_3_87 tw_p_6 tw_1_2 tw_3_88) rfl rfl rfl hdV_X9_refuse ⟨Nat.le_of_ble_eq_true rfl, Nat.le_of_ble_eq_true rfl⟩) (cz_V hK hPc hDc hN (ci := 9) (q0 := 0) rfl rfl [.int 1]) rfl rfl hl.1 rfl (lv_room (Nat.le_of_ble_eq_true rfl)) dX9_takesWord_14 ⟨Nat.le_of_ble_eq_true rfl, Nat.le_of_ble_eq_true rfl⟩) hS (fun q _ h => hFc q h) hFc (fun r_15 uZ tZ H1 locs ht hvm hw hB hz1 hk1 hS => ?_)
    obtain ⟨o_16, o_17⟩ := uZ
    obtain ⟨hP1, hK1, hD1⟩ := hB
    rw [ht] at hP1
    obtain ⟨hP, hD⟩ := va_join (wr := [(ob_4, .inl (k 1, 1000, .inl obg4))]) (w1 := [(ob, .inr (9, [.int obv0, .int o_16, .int o_17, .ref obd, .ref ob_4, .int o_2, .int o_3, .int o_4, .int o_5]))]) hP hD [0] [1] rfl rfl (by decide +kernel) (by decide +kernel) hk1 hFc hP1 hD1
    clear hK1 hP1 hD1 hPc hDc hFc
    clear hk1 hz1 ht hvm
    have hP : va_P D vwCl [(ob_4, .inl (k 1, 1000, .inl obg4)), (ob, .inr (9, [.int obv0, .int o_16, .int o_17, .ref obd, .ref ob_4, .int o_2, .int o_3, .int o_4, .int o_5]))] H1 := hP
    have hD : va_D A [(ob_4, .inl (k 1, 1000, .inl obg4)), (ob, .inr (9, [.int obv0, .int o_16, .int o_17, .ref obd, .ref ob_4, .int o_2, .int o_3, .int o_4, .int o_5]))] := hD
    generalize H1 = H at hP hS ⊢
    have hw_18 : (0 ≤ r_15.toInt ∧ r_15.toInt ≤ 0) := hw
    have hw_19 := hw_18
    clear hw
    refine lv_if_eq (tgt := 24) hx hb dX9_takesWord_17 (by decide) (fun h_20 => ?_) (fun h_20 => ?_)
    · skip
      have zh_20 : r_15.toInt = 0 := z_eq h_20
      refine lv_iconst (v := 0) hx hb dX9_takesWord_24 (by decide) ?_
      obtain ⟨hP9, hD9⟩ := sub2 hP hD (ws' := [(ob, .inr (9, [.int obv0, .int o_16, .int o_17, .ref obd, .ref ob_4, .int o_2, .int o_3, .int o_4, .int o_5])), (ob_4, .inl (k 1, 1000, .inl obg4))]) [1, 0] (by decide +kernel) rfl
      exact W.zret (v := 0) hx hb hr (by decide) (fun tZ ht hW => ⟨⟨0, (o_2, o_3, o_4, o_5, o_16, o_17), rfl, ⟨(show 0 ≤ 0 ∧ 0 ≤ 1 from by omega), (show 0 ≤ o_2.toInt ∧ o_2.toInt ≤ 4 from by omega), (show 0 ≤ o_3.toInt ∧ o_3.toInt ≤ 1000 from by omega), (show 0 ≤ o_4.toInt ∧ o_4.toInt ≤ 1000 from by omega), (show (-2147483648) ≤ o_5.toInt ∧ o_5.toInt ≤ 1000000 from by have := z_rng o_5; omega)⟩, by rw [ht]; exact hP9, va_K.moved hW.alike hK, hD9⟩, hS.F ht⟩) hS.2.2 dX9_takesWord_25
    · skip
      have zh_20 : ¬ r_15.toInt = 0 := z_ne h_20
      exact False.elim (by omega)
set_option maxHeartbeats 4000000 in
set_option maxRecDepth 100000 in
theorem c_X9_takesNumber (l : Launch) (D : va_G) (k : Nat → ClassId) (ob : Nat) (p0 : Int32) (p1 : Int32) (obv0 : Int32) (obv1 : Int32) (obv2 : Int32) (obd : Nat) (ob_4 : Nat) (obv5 : Int32) (obv6 : Int32) (obv7 : Int32) (obv8 : Int32) (obg4 : Nat → Int32) (sz : Nat) (h_obv0 : 0 ≤ obv0.toInt ∧ obv0.toInt ≤ 1000) (h_obv7 : 0 ≤ obv7.toInt ∧ obv7.toInt ≤ 1000) : Met l yX9_takesNumber (ww yX9_takesNumber cX9_takesNumber 3 (some .boolean)) ({ frames := 2, cells := 0, slots := 0, locals := 41 }) (Pre0 D k [(ob, .inr (9, [.int obv0, .int obv1, .int obv2, .ref obd, .ref ob_4, .int obv5, .int obv6, .int obv7, .int obv8])), (ob_4, .inl (k 1, 1000, .inl obg4))] sz [.ref ob, .int p0, .int p1]) (va_Qi (fun (r : Int32) (u : Int32 × Int32 × Int32 × Int32 × Int32 × Int32) => match u with | (obv1z, obv2z, obv5z, obv6z, obv7z, obv8z) => (0 ≤ r.toInt ∧ r.toInt ≤ 1) ∧ (0 ≤ obv5z.toInt ∧ obv5z.toInt ≤ 4) ∧ (0 ≤ obv6z.toInt ∧ obv6z.toInt ≤ 1000) ∧ (0 ≤ obv7z.toInt ∧ obv7z.toInt ≤ 1000) ∧ ((-2147483648) ≤ obv8z.toInt ∧ obv8z.toInt ≤ 1000000) ∧ (r.toInt = 0 ∨ (p0.toInt ≤ obv8z.toInt ∧ obv8z.toInt ≤ p1.toInt))) (fun (u : Int32 × Int32 × Int32 × Int32 × Int32 × Int32) tZ => match u with | (obv1z, obv2z, obv5z, obv6z, obv7z, obv8z) => Bw D k (va_A [(ob, .inr (9, [.int obv0, .int obv1, .int obv2, .ref obd, .ref ob_4, .int obv5, .int obv6, .int obv7, .int obv8])), (ob_4, .inl (k 1, 1000, .inl obg4))] sz) [(ob, .inr (9, [.int obv0, .int obv1z, .int obv2z, .ref obd, .ref ob_4, .int obv5z, .int obv6z, .int obv7z, .int obv8z])), (ob_4, .inl (k 1, 1000, .inl obg4))] tZ) (va_A [(ob, .inr (9, [.int obv0, .int obv1, .int obv2, .ref obd, .ref ob_4, .int obv5, .int obv6, .int obv7, .int obv8])), (ob_4, .inl (k 1, 1000, .inl obg4))] sz)) 0 0 (va_A [(ob, .inr (9, [.int obv0, .int obv1, .int obv2, .ref obd, .ref ob_4, .int obv5, .int obv6, .int obv7, .int obv8])), (ob_4, .inl (k 1, 1000, .inl obg4))] sz) := by
  refine Met.ofW (cc := cX9_takesNumber) (maxL := 3) (ret := (some .boolean)) (by decide +kernel) rfl ?_
  intro p e s m args below meth c s₁ B hml hv
  obtain ⟨rfl, hsz, hP, hK, hD0, hN⟩ := hv
  have hx := B.exec
  have hb := B.bytes
  have hr := B.returns
  have hts : ∀ w ∈ TT, w.before _ s = true := fun w h => atoms_spec (ws := ww yX9_takesNumber cX9_takesNumber 3 (some .boolean)) B.pre w (List.mem_cons_of_mem _ h)
  have hown : s.vm.findClass RX9 = some m.cls := findClass_of_methodNamed B.named
  have hlocks := B.notSynchronized
  subst hsz
  have hD := hD0.self (sz := s.heap.size)
  generalize hAe : va_A [(ob, .inr (9, [.int obv0, .int obv1, .int obv2, .ref obd, .ref ob_4, .int obv5, .int obv6, .int obv7, .int obv8])), (ob_4, .inl (k 1, 1000, .inl obg4))] s.heap.size = A at hD ⊢
  have hA : ∀ q : Nat, s.heap.size ≤ q → A q := fun q h => by rw [← hAe]; exact Or.inr h
  have hS : va_S A s.heap s.heap [] := va_S.rf
  have hl := lv_entry ([.ref ob, .int p0, .int p1]) (n := 3) (Nat.le_of_ble_eq_true rfl)
  rw [lg_entry_eq]
  generalize (lg_sl ([.ref ob, .int p0, .int p1]) ++ List.replicate (3 - (lg_sl ([.ref ob, .int p0, .int p1])).length) Slot.unset).toArray = ls at hl ⊢
  have hl : lv_has ls 3 [(0, .ref ob), (1, .int p0), (2, .int p1)] := hl
  refine lv_aload_n hx hb dX9_takesNumber_0 rfl (lv_at hl 0 rfl) ?_
  obtain ⟨hPc, hDc, hFc⟩ := sub3 hP hD hS hA (ws' := [(ob, .inr (9, [.int obv0, .int obv1, .int obv2, .ref obd, .ref ob_4, .int obv5, .int obv6, .int obv7, .int obv8])), (ob_4, .inl (k 1, 1000, .inl obg4))]) [0, 1] (by decide +kernel) rfl
  refine va_callv (va_runV (C := RX9) (As := []) (rest := []) ⟨hx, hb, hml, hown, hts⟩ (c_X9_advance l D k ob obv0 obv1 obv2 obd ob_4 obv5 obv6 obv7 obv8 obg4 s.heap.size (show 0 ≤ obv0.toInt ∧ obv0.toInt ≤ 1000 from by omega) (show 0 ≤ obv7.toInt ∧ obv7.toInt ≤ 1000 from by omega)) (cwV 0 hts (gV tw_2_238 tw_3_0 tw_p_0 tw_1_2 tw_3_1) rfl rfl rfl hdV_X9_advance ⟨Nat.le_of_ble_eq_true rfl, Nat.le_of_ble_eq_true rfl⟩) (cz_V hK hPc hDc hN (ci := 9) (q0 := 0) rfl rfl []) rfl rfl hl.1 rfl (lv_room (Nat.le_of_ble_eq_true rfl)) dX9_takesNumber_1 ⟨Nat.le_of_ble_eq_true rfl, Nat.le_of_ble_eq_true rfl⟩) hS (fun q _ h => hFc q h) hFc (fun uZ tZ H1 locs ht hvm hw hB hz1 hk1 hS => ?_)
  obtain ⟨o_2, o_3, o_4, o_5⟩ := uZ
  obtain ⟨hP1, hK1, hD1⟩ := hB
  rw [ht] at hP1
  obtain ⟨hP, hD⟩ := va_join (wr := []) (w1 := [(ob, .inr (9, [.int obv0, .int obv1, .int obv2, .ref obd, .ref ob_4, .int o_2, .int o_3, .int o_4, .int o_5])), (ob_4, .inl (k 1, 1000, .inl obg4))]) hP hD [0, 1] [] rfl rfl (by decide +kernel) (by decide +kernel) hk1 hFc hP1 hD1
  clear hK1 hP1 hD1 hPc hDc hFc
  clear hk1 hz1 ht hvm
  have hP : va_P D vwCl [(ob, .inr (9, [.int obv0, .int obv1, .int obv2, .ref obd, .ref ob_4, .int o_2, .int o_3, .int o_4, .int o_5])), (ob_4, .inl (k 1, 1000, .inl obg4))] H1 := hP
  have hD : va_D A [(ob, .inr (9, [.int obv0, .int obv1, .int obv2, .ref obd, .ref ob_4, .int o_2, .int o_3, .int o_4, .int o_5])), (ob_4, .inl (k 1, 1000, .inl obg4))] := hD
  generalize H1 = H at hP hS ⊢
  have hw_6 : (0 ≤ o_2.toInt ∧ o_2.toInt ≤ 4) ∧ (0 ≤ o_3.toInt ∧ o_3.toInt ≤ 1000) ∧ (0 ≤ o_4.toInt ∧ o_4.toInt ≤ 1000) ∧ ((-2147483648) ≤ o_5.toInt ∧ o_5.toInt ≤ 1000000) := hw
  obtain ⟨hw_7, hw_8, hw_9, hw_10⟩ := hw_6
  clear hw
  refine lv_aload_n hx hb dX9_takesNumber_4 rfl (lv_at hl 0 rfl) ?_
  refine va_get (D := D) (ci := 9) (v := .int o_2) (C := RX9) (T := TX9) (N := 9) hx hb hts iT_X9 hown hK hP 0 rfl rfl 5 (by decide) (hts _ tw_1_204) (fun _ h9 => h9) rfl dX9_takesNumber_5 ?_
  refine lv_iconst (v := 2) hx hb dX9_takesNumber_8 (by decide) ?_
  refine lv_icmp_eq (tgt := 18) hx hb dX9_takesNumber_9 (by decide) (fun h_11 => ?_) (fun h_11 => ?_)
  · skip
    have zh_11 : o_2.toInt = 2 := z_eq h_11
    refine lv_aload_n hx hb dX9_takesNumber_18 rfl (lv_at hl 0 rfl) ?_
    refine va_get (D := D) (ci := 9) (v := .int o_5) (C := RX9) (T := TX9) (N := 9) hx hb hts iT_X9 hown hK hP 0 rfl rfl 8 (by decide) (hts _ tw_1_207) (fun _ h9 => h9) rfl dX9_takesNumber_19 ?_
    refine lv_iload_n hx hb dX9_takesNumber_22 rfl (lv_at hl 1 rfl) ?_
    refine lv_icmp_lt (tgt := 34) hx hb dX9_takesNumber_23 (by decide) (fun h_12 => ?_) (fun h_12 => ?_)
    · skip
      have zh_12 : o_5.toInt < p0.toInt := z_lt h_12
      refine lv_aload_n hx hb dX9_takesNumber_34 rfl (lv_at hl 0 rfl) ?_
      refine lv_iconst (v := 2) hx hb dX9_takesNumber_35 (by decide) ?_
      obtain ⟨hPc, hDc, hFc⟩ := sub3 hP hD hS hA (ws' := [(ob, .inr (9, [.int obv0, .int obv1, .int obv2, .ref obd, .ref ob_4, .int o_2, .int o_3, .int o_4, .int o_5]))]) [0] (by decide +kernel) rfl
      refine va_calli (va_runV (C := RX9) (As := [.int 2]) (rest := []) ⟨hx, hb, hml, hown, hts⟩ (c_X9_refuse l D k ob 2 obv0 obv1 obv2 obd ob_4 o_2 o_3 o_4 o_5 H.size (show 0 ≤ obv0.toInt ∧ obv0.toInt ≤ 1000 from by omega)) (cwV 1 hts (gV tw_3_85 tw_3_87 tw_p_6 tw_1_2 tw_3_88) rfl rfl rfl hdV_X9_refuse ⟨Nat.le_of_ble_eq_true rfl, Nat.le_of_ble_eq_true rfl⟩) (cz_V hK hPc hDc hN (ci := 9) (q0 := 0) rfl rfl [.int 2]) rfl rfl hl.1 rfl (lv_room (Nat.le_of_ble_eq_true rfl)) dX9_takesNumber_36 ⟨Nat.le_of_ble_eq_true rfl, Nat.le_of_ble_eq_true rfl⟩) hS (fun q _ h => hFc q h) hFc (fun r_13 uZ tZ H1 locs ht hvm hw hB hz1 hk1 hS => ?_)
      obtain ⟨o_14, o_15⟩ := uZ
      obtain ⟨hP1, hK1, hD1⟩ := hB
      rw [ht] at hP1
      obtain ⟨hP, hD⟩ := va_join (wr := [(ob_4, .inl (k 1, 1000, .inl obg4))]) (w1 := [(ob, .inr (9, [.int obv0, .int o_14, .int o_15, .ref obd, .ref ob_4, .int o_2, .int o_3, .int o_4, .int o_5]))]) hP hD [0] [1] rfl rfl (by decide +kernel) (by decide +kernel) hk1 hFc hP1 hD1
      clear hK1 hP1 hD1 hPc hDc hFc
      clear hk1 hz1 ht hvm
      have hP : va_P D vwCl [(ob_4, .inl (k 1, 1000, .inl obg4)), (ob, .inr (9, [.int obv0, .int o_14, .int o_15, .ref obd, .ref ob_4, .int o_2, .int o_3, .int o_4, .int o_5]))] H1 := hP
      have hD : va_D A [(ob_4, .inl (k 1, 1000, .inl obg4)), (ob, .inr (9, [.int obv0, .int o_14, .int o_15, .ref obd, .ref ob_4, .int o_2, .int o_3, .int o_4, .int o_5]))] := hD
      generalize H1 = H at hP hS ⊢
      have hw_16 : (0 ≤ r_13.toInt ∧ r_13.toInt ≤ 0) := hw
      have hw_17 := hw_16
      clear hw
      refine lv_if_eq (tgt := 46) hx hb dX9_takesNumber_39 (by decide) (fun h_18 => ?_) (fun h_18 => ?_)
      · skip
        have zh_18 : r_13.toInt = 0 := z_eq h_18
        refine lv_iconst (v := 0) hx hb dX9_takesNumber_46 (by decide) ?_
        obtain ⟨hP9, hD9⟩ := sub2 hP hD (ws' := [(ob, .inr (9, [.int obv0, .int o_14, .int o_15, .ref obd, .ref ob_4, .int o_2, .int o_3, .int o_4, .int o_5])), (ob_4, .inl (k 1, 1000, .inl obg4))]) [1, 0] (by decide +kernel) rfl
        exact W.zret (v := 0) hx hb hr (by decide) (fun tZ ht hW => ⟨⟨0, (o_14, o_15, o_2, o_3, o_4, o_5), rfl, ⟨(show 0 ≤ 0 ∧ 0 ≤ 1 from by omega), (show 0 ≤ o_2.toInt ∧ o_2.toInt ≤ 4 from by omega), (show 0 ≤ o_3.toInt ∧ o_3.toInt ≤ 1000 from by omega), (show 0 ≤ o_4.toInt ∧ o_4.toInt ≤ 1000 from by omega), (show (-2147483648) ≤ o_5.toInt ∧ o_5.toInt ≤ 1000000 from by have := z_rng o_5; omega), (show 0 = 0 ∨ (p0.toInt ≤ o_5.toInt ∧ o_5.toInt ≤ p1.toInt) from by omega)⟩, by rw [ht]; exact hP9, va_K.moved hW.alike hK, hD9⟩, hS.F ht⟩) hS.2.2 dX9_takesNumber_47
      · skip
        have zh_18 : ¬ r_13.toInt = 0 := z_ne h_18
        exact False.elim (by omega)
    · skip
      have zh_12 : p0.toInt ≤ o_5.toInt := z_nlt h_12
      refine lv_aload_n hx hb dX9_takesNumber_26 rfl (lv_at hl 0 rfl) ?_
      refine va_get (D := D) (ci := 9) (v := .int o_5) (C := RX9) (T := TX9) (N := 9) hx hb hts iT_X9 hown hK hP 0 rfl rfl 8 (by decide) (hts _ tw_1_207) (fun _ h9 => h9) rfl dX9_takesNumber_27 ?_
      refine lv_iload_n hx hb dX9_takesNumber_30 rfl (lv_at hl 2 rfl) ?_
      refine lv_icmp_le (tgt := 42) hx hb dX9_takesNumber_31 (by decide) (fun h_19 => ?_) (fun h_19 => ?_)
      · skip
        have zh_19 : o_5.toInt ≤ p1.toInt := z_le h_19
        refine lv_iconst (v := 1) hx hb dX9_takesNumber_42 (by decide) ?_
        refine lv_goto (tgt := 47) hx hb dX9_takesNumber_43 (by decide) ?_
        obtain ⟨hP9, hD9⟩ := sub2 hP hD (ws' := [(ob, .inr (9, [.int obv0, .int obv1, .int obv2, .ref obd, .ref ob_4, .int o_2, .int o_3, .int o_4, .int o_5])), (ob_4, .inl (k 1, 1000, .inl obg4))]) [0, 1] (by decide +kernel) rfl
        exact W.zret (v := 1) hx hb hr (by decide) (fun tZ ht hW => ⟨⟨1, (obv1, obv2, o_2, o_3, o_4, o_5), rfl, ⟨(show 0 ≤ 1 ∧ 1 ≤ 1 from by omega), (show 0 ≤ o_2.toInt ∧ o_2.toInt ≤ 4 from by omega), (show 0 ≤ o_3.toInt ∧ o_3.toInt ≤ 1000 from by omega), (show 0 ≤ o_4.toInt ∧ o_4.toInt ≤ 1000 from by omega), (show (-2147483648) ≤ o_5.toInt ∧ o_5.toInt ≤ 1000000 from by have := z_rng o_5; omega), (show 1 = 0 ∨ (p0.toInt ≤ o_5.toInt ∧ o_5.toInt ≤ p1.toInt) from by omega)⟩, by rw [ht]; exact hP9, va_K.moved hW.alike hK, hD9⟩, hS.F ht⟩) hS.2.2 dX9_takesNumber_47
      · skip
        have zh_19 : p1.toInt < o_5.toInt := z_nle h_19
        refine lv_aload_n hx hb dX9_takesNumber_34 rfl (lv_at hl 0 rfl) ?_
        refine lv_iconst (v := 2) hx hb dX9_takesNumber_35 (by decide) ?_
        obtain ⟨hPc, hDc, hFc⟩ := sub3 hP hD hS hA (ws' := [(ob, .inr (9, [.int obv0, .int obv1, .int obv2, .ref obd, .ref ob_4, .int o_2, .int o_3, .int o_4, .int o_5]))]) [0] (by decide +kernel) rfl
        refine va_calli (va_runV (C := RX9) (As := [.int 2]) (rest := []) ⟨hx, hb, hml, hown, hts⟩ (c_X9_refuse l D k ob 2 obv0 obv1 obv2 obd ob_4 o_2 o_3 o_4 o_5 H.size (show 0 ≤ obv0.toInt ∧ obv0.toInt ≤ 1000 from by omega)) (cwV 1 hts (gV tw_3_85 tw_3_87 tw_p_6 tw_1_2 tw_3_88) rfl rfl rfl hdV_X9_refuse ⟨Nat.le_of_ble_eq_true rfl, Nat.le_of_ble_eq_true rfl⟩) (cz_V hK hPc hDc hN (ci := 9) (q0 := 0) rfl rfl [.int 2]) rfl rfl hl.1 rfl (lv_room (Nat.le_of_ble_eq_true rfl)) dX9_takesNumber_36 ⟨Nat.le_of_ble_eq_true rfl, Nat.le_of_ble_eq_true rfl⟩) hS (fun q _ h => hFc q h) hFc (fun r_20 uZ tZ H1 locs ht hvm hw hB hz1 hk1 hS => ?_)
        obtain ⟨o_21, o_22⟩ := uZ
        obtain ⟨hP1, hK1, hD1⟩ := hB
        rw [ht] at hP1
        obtain ⟨hP, hD⟩ := va_join (wr := [(ob_4, .inl (k 1, 1000, .inl obg4))]) (w1 := [(ob, .inr (9, [.int obv0, .int o_21, .int o_22, .ref obd, .ref ob_4, .int o_2, .int o_3, .int o_4, .int o_5]))]) hP hD [0] [1] rfl rfl (by decide +kernel) (by decide +kernel) hk1 hFc hP1 hD1
        clear hK1 hP1 hD1 hPc hDc hFc
        clear hk1 hz1 ht hvm
        have hP : va_P D vwCl [(ob_4, .inl (k 1, 1000, .inl obg4)), (ob, .inr (9, [.int obv0, .int o_21, .int o_22, .ref obd, .ref ob_4, .int o_2, .int o_3, .int o_4, .int o_5]))] H1 := hP
        have hD : va_D A [(ob_4, .inl (k 1, 1000, .inl obg4)), (ob, .inr (9, [.int obv0, .int o_21, .int o_22, .ref obd, .ref ob_4, .int o_2, .int o_3, .int o_4, .int o_5]))] := hD
        generalize H1 = H at hP hS ⊢
        have hw_23 : (0 ≤ r_20.toInt ∧ r_20.toInt ≤ 0) := hw
        have hw_24 := hw_23
        clear hw
        refine lv_if_eq (tgt := 46) hx hb dX9_takesNumber_39 (by decide) (fun h_25 => ?_) (fun h_25 => ?_)
        · skip
          have zh_25 : r_20.toInt = 0 := z_eq h_25
          refine lv_iconst (v := 0) hx hb dX9_takesNumber_46 (by decide) ?_
          obtain ⟨hP9, hD9⟩ := sub2 hP hD (ws' := [(ob, .inr (9, [.int obv0, .int o_21, .int o_22, .ref obd, .ref ob_4, .int o_2, .int o_3, .int o_4, .int o_5])), (ob_4, .inl (k 1, 1000, .inl obg4))]) [1, 0] (by decide +kernel) rfl
          exact W.zret (v := 0) hx hb hr (by decide) (fun tZ ht hW => ⟨⟨0, (o_21, o_22, o_2, o_3, o_4, o_5), rfl, ⟨(show 0 ≤ 0 ∧ 0 ≤ 1 from by omega), (show 0 ≤ o_2.toInt ∧ o_2.toInt ≤ 4 from by omega), (show 0 ≤ o_3.toInt ∧ o_3.toInt ≤ 1000 from by omega), (show 0 ≤ o_4.toInt ∧ o_4.toInt ≤ 1000 from by omega), (show (-2147483648) ≤ o_5.toInt ∧ o_5.toInt ≤ 1000000 from by have := z_rng o_5; omega), (show 0 = 0 ∨ (p0.toInt ≤ o_5.toInt ∧ o_5.toInt ≤ p1.toInt) from by omega)⟩, by rw [ht]; exact hP9, va_K.moved hW.alike hK, hD9⟩, hS.F ht⟩) hS.2.2 dX9_takesNumber_47
        · skip
          have zh_25 : ¬ r_20.toInt = 0 := z_ne h_25
          exact False.elim (by omega)
  · skip
    have zh_11 : ¬ o_2.toInt = 2 := z_ne h_11
    refine lv_aload_n hx hb dX9_takesNumber_12 rfl (lv_at hl 0 rfl) ?_
    refine lv_iconst (v := 1) hx hb dX9_takesNumber_13 (by decide) ?_
    obtain ⟨hPc, hDc, hFc⟩ := sub3 hP hD hS hA (ws' := [(ob, .inr (9, [.int obv0, .int obv1, .int obv2, .ref obd, .ref ob_4, .int o_2, .int o_3, .int o_4, .int o_5]))]) [0] (by decide +kernel) rfl
    refine va_calli (va_runV (C := RX9) (As := [.int 1]) (rest := []) ⟨hx, hb, hml, hown, hts⟩ (c_X9_refuse l D k ob 1 obv0 obv1 obv2 obd ob_4 o_2 o_3 o_4 o_5 H.size (show 0 ≤ obv0.toInt ∧ obv0.toInt ≤ 1000 from by omega)) (cwV 1 hts (gV tw_3_85 tw_3_87 tw_p_6 tw_1_2 tw_3_88) rfl rfl rfl hdV_X9_refuse ⟨Nat.le_of_ble_eq_true rfl, Nat.le_of_ble_eq_true rfl⟩) (cz_V hK hPc hDc hN (ci := 9) (q0 := 0) rfl rfl [.int 1]) rfl rfl hl.1 rfl (lv_room (Nat.le_of_ble_eq_true rfl)) dX9_takesNumber_14 ⟨Nat.le_of_ble_eq_true rfl, Nat.le_of_ble_eq_true rfl⟩) hS (fun q _ h => hFc q h) hFc (fun r_26 uZ tZ H1 locs ht hvm hw hB hz1 hk1 hS => ?_)
    obtain ⟨o_27, o_28⟩ := uZ
    obtain ⟨hP1, hK1, hD1⟩ := hB
    rw [ht] at hP1
    obtain ⟨hP, hD⟩ := va_join (wr := [(ob_4, .inl (k 1, 1000, .inl obg4))]) (w1 := [(ob, .inr (9, [.int obv0, .int o_27, .int o_28, .ref obd, .ref ob_4, .int o_2, .int o_3, .int o_4, .int o_5]))]) hP hD [0] [1] rfl rfl (by decide +kernel) (by decide +kernel) hk1 hFc hP1 hD1
    clear hK1 hP1 hD1 hPc hDc hFc
    clear hk1 hz1 ht hvm
    have hP : va_P D vwCl [(ob_4, .inl (k 1, 1000, .inl obg4)), (ob, .inr (9, [.int obv0, .int o_27, .int o_28, .ref obd, .ref ob_4, .int o_2, .int o_3, .int o_4, .int o_5]))] H1 := hP
    have hD : va_D A [(ob_4, .inl (k 1, 1000, .inl obg4)), (ob, .inr (9, [.int obv0, .int o_27, .int o_28, .ref obd, .ref ob_4, .int o_2, .int o_3, .int o_4, .int o_5]))] := hD
    generalize H1 = H at hP hS ⊢
    have hw_29 : (0 ≤ r_26.toInt ∧ r_26.toInt ≤ 0) := hw
    have hw_30 := hw_29
    clear hw
    obtain ⟨hP9, hD9⟩ := sub2 hP hD (ws' := [(ob, .inr (9, [.int obv0, .int o_27, .int o_28, .ref obd, .ref ob_4, .int o_2, .int o_3, .int o_4, .int o_5])), (ob_4, .inl (k 1, 1000, .inl obg4))]) [1, 0] (by decide +kernel) rfl
    exact W.zret (v := r_26) hx hb hr (z_nar (by omega)) (fun tZ ht hW => ⟨⟨r_26, (o_27, o_28, o_2, o_3, o_4, o_5), rfl, ⟨(show 0 ≤ r_26.toInt ∧ r_26.toInt ≤ 1 from by omega), (show 0 ≤ o_2.toInt ∧ o_2.toInt ≤ 4 from by omega), (show 0 ≤ o_3.toInt ∧ o_3.toInt ≤ 1000 from by omega), (show 0 ≤ o_4.toInt ∧ o_4.toInt ≤ 1000 from by omega), (show (-2147483648) ≤ o_5.toInt ∧ o_5.toInt ≤ 1000000 from by have := z_rng o_5; omega), (show r_26.toInt = 0 ∨ (p0.toInt ≤ o_5.toInt ∧ o_5.toInt ≤ p1.toInt) from by omega)⟩, by rw [ht]; exact hP9, va_K.moved hW.alike hK, hD9⟩, hS.F ht⟩) hS.2.2 dX9_takesNumber_17
set_option maxHeartbeats 4000000 in
set_option maxRecDepth 100000 in
theorem c_X9_isSign (l : Launch) (D : va_G) (k : Nat → ClassId) (ob : Nat) (obv0 : Int32) (obv1 : Int32) (obv2 : Int32) (obd : Nat) (ob_4 : Nat) (obv5 : Int32) (obv6 : Int32) (obv7 : Int32) (obv8 : Int32) (sz : Nat) (h_obv0 : 0 ≤ obv0.toInt ∧ obv0.toInt ≤ 1000) : Met l yX9_isSign (ww yX9_isSign cX9_isSign 1 (some .boolean)) ({ frames := 1, cells := 0, slots := 0, locals := 21 }) (Pre0 D k [(ob, .inr (9, [.int obv0, .int obv1, .int obv2, .ref obd, .ref ob_4, .int obv5, .int obv6, .int obv7, .int obv8]))] sz [.ref ob]) (va_Qi (fun (r : Int32) (u : Int32 × Int32) => match u with | (obv1z, obv2z) => (0 ≤ r.toInt ∧ r.toInt ≤ 1)) (fun (u : Int32 × Int32) tZ => match u with | (obv1z, obv2z) => Bw D k (va_A [(ob, .inr (9, [.int obv0, .int obv1, .int obv2, .ref obd, .ref ob_4, .int obv5, .int obv6, .int obv7, .int obv8]))] sz) [(ob, .inr (9, [.int obv0, .int obv1z, .int obv2z, .ref obd, .ref ob_4, .int obv5, .int obv6, .int obv7, .int obv8]))] tZ) (va_A [(ob, .inr (9, [.int obv0, .int obv1, .int obv2, .ref obd, .ref ob_4, .int obv5, .int obv6, .int obv7, .int obv8]))] sz)) 0 0 (va_A [(ob, .inr (9, [.int obv0, .int obv1, .int obv2, .ref obd, .ref ob_4, .int obv5, .int obv6, .int obv7, .int obv8]))] sz) := by
  refine Met.ofW (cc := cX9_isSign) (maxL := 1) (ret := (some .boolean)) (by decide +kernel) rfl ?_
  intro p e s m args below meth c s₁ B hml hv
  obtain ⟨rfl, hsz, hP, hK, hD0, hN⟩ := hv
  have hx := B.exec
  have hb := B.bytes
  have hr := B.returns
  have hts : ∀ w ∈ TT, w.before _ s = true := fun w h => atoms_spec (ws := ww yX9_isSign cX9_isSign 1 (some .boolean)) B.pre w (List.mem_cons_of_mem _ h)
  have hown : s.vm.findClass RX9 = some m.cls := findClass_of_methodNamed B.named
  have hlocks := B.notSynchronized
  subst hsz
  have hD := hD0.self (sz := s.heap.size)
  generalize hAe : va_A [(ob, .inr (9, [.int obv0, .int obv1, .int obv2, .ref obd, .ref ob_4, .int obv5, .int obv6, .int obv7, .int obv8]))] s.heap.size = A at hD ⊢
  have hA : ∀ q : Nat, s.heap.size ≤ q → A q := fun q h => by rw [← hAe]; exact Or.inr h
  have hS : va_S A s.heap s.heap [] := va_S.rf
  have hl := lv_entry ([.ref ob]) (n := 1) (Nat.le_of_ble_eq_true rfl)
  rw [lg_entry_eq]
  generalize (lg_sl ([.ref ob]) ++ List.replicate (1 - (lg_sl ([.ref ob])).length) Slot.unset).toArray = ls at hl ⊢
  have hl : lv_has ls 1 [(0, .ref ob)] := hl
  refine lv_aload_n hx hb dX9_isSign_0 rfl (lv_at hl 0 rfl) ?_
  refine va_get (D := D) (ci := 9) (v := .int obv5) (C := RX9) (T := TX9) (N := 9) hx hb hts iT_X9 hown hK hP 0 rfl rfl 5 (by decide) (hts _ tw_1_204) (fun _ h9 => h9) rfl dX9_isSign_1 ?_
  refine lv_iconst (v := 3) hx hb dX9_isSign_4 (by decide) ?_
  refine lv_icmp_eq (tgt := 16) hx hb dX9_isSign_5 (by decide) (fun h_1 => ?_) (fun h_1 => ?_)
  · skip
    have zh_1 : obv5.toInt = 3 := z_eq h_1
    refine lv_iconst (v := 1) hx hb dX9_isSign_16 (by decide) ?_
    refine lv_goto (tgt := 21) hx hb dX9_isSign_17 (by decide) ?_
    obtain ⟨hP9, hD9⟩ := sub2 hP hD (ws' := [(ob, .inr (9, [.int obv0, .int obv1, .int obv2, .ref obd, .ref ob_4, .int obv5, .int obv6, .int obv7, .int obv8]))]) [0] (by decide +kernel) rfl
    exact W.zret (v := 1) hx hb hr (by decide) (fun tZ ht hW => ⟨⟨1, (obv1, obv2), rfl, (show 0 ≤ 1 ∧ 1 ≤ 1 from by omega), by rw [ht]; exact hP9, va_K.moved hW.alike hK, hD9⟩, hS.F ht⟩) hS.2.2 dX9_isSign_21
  · skip
    have zh_1 : ¬ obv5.toInt = 3 := z_ne h_1
    refine lv_aload_n hx hb dX9_isSign_8 rfl (lv_at hl 0 rfl) ?_
    refine lv_iconst (v := 1) hx hb dX9_isSign_9 (by decide) ?_
    obtain ⟨hPc, hDc, hFc⟩ := sub3 hP hD hS hA (ws' := [(ob, .inr (9, [.int obv0, .int obv1, .int obv2, .ref obd, .ref ob_4, .int obv5, .int obv6, .int obv7, .int obv8]))]) [0] (by decide +kernel) rfl
    refine va_calli (va_runV (C := RX9) (As := [.int 1]) (rest := []) ⟨hx, hb, hml, hown, hts⟩ (c_X9_refuse l D k ob 1 obv0 obv1 obv2 obd ob_4 obv5 obv6 obv7 obv8 s.heap.size (show 0 ≤ obv0.toInt ∧ obv0.toInt ≤ 1000 from by omega)) (cwV 1 hts (gV tw_3_85 tw_3_87 tw_p_6 tw_1_2 tw_3_88) rfl rfl rfl hdV_X9_refuse ⟨Nat.le_of_ble_eq_true rfl, Nat.le_of_ble_eq_true rfl⟩) (cz_V hK hPc hDc hN (ci := 9) (q0 := 0) rfl rfl [.int 1]) rfl rfl hl.1 rfl (lv_room (Nat.le_of_ble_eq_true rfl)) dX9_isSign_10 ⟨Nat.le_of_ble_eq_true rfl, Nat.le_of_ble_eq_true rfl⟩) hS (fun q _ h => hFc q h) hFc (fun r_2 uZ tZ H1 locs ht hvm hw hB hz1 hk1 hS => ?_)
    obtain ⟨o_3, o_4⟩ := uZ
    obtain ⟨hP1, hK1, hD1⟩ := hB
    rw [ht] at hP1
    obtain ⟨hP, hD⟩ := va_join (wr := []) (w1 := [(ob, .inr (9, [.int obv0, .int o_3, .int o_4, .ref obd, .ref ob_4, .int obv5, .int obv6, .int obv7, .int obv8]))]) hP hD [0] [] rfl rfl (by decide +kernel) (by decide +kernel) hk1 hFc hP1 hD1
    clear hK1 hP1 hD1 hPc hDc hFc
    clear hk1 hz1 ht hvm
    have hP : va_P D vwCl [(ob, .inr (9, [.int obv0, .int o_3, .int o_4, .ref obd, .ref ob_4, .int obv5, .int obv6, .int obv7, .int obv8]))] H1 := hP
    have hD : va_D A [(ob, .inr (9, [.int obv0, .int o_3, .int o_4, .ref obd, .ref ob_4, .int obv5, .int obv6, .int obv7, .int obv8]))] := hD
    generalize H1 = H at hP hS ⊢
    have hw_5 : (0 ≤ r_2.toInt ∧ r_2.toInt ≤ 0) := hw
    have hw_6 := hw_5
    clear hw
    refine lv_if_eq (tgt := 20) hx hb dX9_isSign_13 (by decide) (fun h_7 => ?_) (fun h_7 => ?_)
    · skip
      have zh_7 : r_2.toInt = 0 := z_eq h_7
      refine lv_iconst (v := 0) hx hb dX9_isSign_20 (by decide) ?_
      obtain ⟨hP9, hD9⟩ := sub2 hP hD (ws' := [(ob, .inr (9, [.int obv0, .int o_3, .int o_4, .ref obd, .ref ob_4, .int obv5, .int obv6, .int obv7, .int obv8]))]) [0] (by decide +kernel) rfl
      exact W.zret (v := 0) hx hb hr (by decide) (fun tZ ht hW => ⟨⟨0, (o_3, o_4), rfl, (show 0 ≤ 0 ∧ 0 ≤ 1 from by omega), by rw [ht]; exact hP9, va_K.moved hW.alike hK, hD9⟩, hS.F ht⟩) hS.2.2 dX9_isSign_21
    · skip
      have zh_7 : ¬ r_2.toInt = 0 := z_ne h_7
      exact False.elim (by omega)
set_option maxHeartbeats 4000000 in
set_option maxRecDepth 100000 in
theorem c_X9_takesSign (l : Launch) (D : va_G) (k : Nat → ClassId) (ob : Nat) (obv0 : Int32) (obv1 : Int32) (obv2 : Int32) (obd : Nat) (ob_4 : Nat) (obv5 : Int32) (obv6 : Int32) (obv7 : Int32) (obv8 : Int32) (obg4 : Nat → Int32) (sz : Nat) (h_obv0 : 0 ≤ obv0.toInt ∧ obv0.toInt ≤ 1000) (h_obv7 : 0 ≤ obv7.toInt ∧ obv7.toInt ≤ 1000) : Met l yX9_takesSign (ww yX9_takesSign cX9_takesSign 1 (some .boolean)) ({ frames := 2, cells := 0, slots := 0, locals := 41 }) (Pre0 D k [(ob, .inr (9, [.int obv0, .int obv1, .int obv2, .ref obd, .ref ob_4, .int obv5, .int obv6, .int obv7, .int obv8])), (ob_4, .inl (k 1, 1000, .inl obg4))] sz [.ref ob]) (va_Qi (fun (r : Int32) (u : Int32 × Int32 × Int32 × Int32 × Int32 × Int32) => match u with | (obv1z, obv2z, obv5z, obv6z, obv7z, obv8z) => (0 ≤ r.toInt ∧ r.toInt ≤ 1) ∧ (0 ≤ obv5z.toInt ∧ obv5z.toInt ≤ 4) ∧ (0 ≤ obv6z.toInt ∧ obv6z.toInt ≤ 1000) ∧ (0 ≤ obv7z.toInt ∧ obv7z.toInt ≤ 1000) ∧ ((-2147483648) ≤ obv8z.toInt ∧ obv8z.toInt ≤ 1000000)) (fun (u : Int32 × Int32 × Int32 × Int32 × Int32 × Int32) tZ => match u with | (obv1z, obv2z, obv5z, obv6z, obv7z, obv8z) => Bw D k (va_A [(ob, .inr (9, [.int obv0, .int obv1, .int obv2, .ref obd, .ref ob_4, .int obv5, .int obv6, .int obv7, .int obv8])), (ob_4, .inl (k 1, 1000, .inl obg4))] sz) [(ob, .inr (9, [.int obv0, .int obv1z, .int obv2z, .ref obd, .ref ob_4, .int obv5z, .int obv6z, .int obv7z, .int obv8z])), (ob_4, .inl (k 1, 1000, .inl obg4))] tZ) (va_A [(ob, .inr (9, [.int obv0, .int obv1, .int obv2, .ref obd, .ref ob_4, .int obv5, .int obv6, .int obv7, .int obv8])), (ob_4, .inl (k 1, 1000, .inl obg4))] sz)) 0 0 (va_A [(ob, .inr (9, [.int obv0, .int obv1, .int obv2, .ref obd, .ref ob_4, .int obv5, .int obv6, .int obv7, .int obv8])), (ob_4, .inl (k 1, 1000, .inl obg4))] sz) := by
  refine Met.ofW (cc := cX9_takesSign) (maxL := 1) (ret := (some .boolean)) (by decide +kernel) rfl ?_
  intro p e s m args below meth c s₁ B hml hv
  obtain ⟨rfl, hsz, hP, hK, hD0, hN⟩ := hv
  have hx := B.exec
  have hb := B.bytes
  have hr := B.returns
  have hts : ∀ w ∈ TT, w.before _ s = true := fun w h => atoms_spec (ws := ww yX9_takesSign cX9_takesSign 1 (some .boolean)) B.pre w (List.mem_cons_of_mem _ h)
  have hown : s.vm.findClass RX9 = some m.cls := findClass_of_methodNamed B.named
  have hlocks := B.notSynchronized
  subst hsz
  have hD := hD0.self (sz := s.heap.size)
  generalize hAe : va_A [(ob, .inr (9, [.int obv0, .int obv1, .int obv2, .ref obd, .ref ob_4, .int obv5, .int obv6, .int obv7, .int obv8])), (ob_4, .inl (k 1, 1000, .inl obg4))] s.heap.size = A at hD ⊢
  have hA : ∀ q : Nat, s.heap.size ≤ q → A q := fun q h => by rw [← hAe]; exact Or.inr h
  have hS : va_S A s.heap s.heap [] := va_S.rf
  have hl := lv_entry ([.ref ob]) (n := 1) (Nat.le_of_ble_eq_true rfl)
  rw [lg_entry_eq]
  generalize (lg_sl ([.ref ob]) ++ List.replicate (1 - (lg_sl ([.ref ob])).length) Slot.unset).toArray = ls at hl ⊢
  have hl : lv_has ls 1 [(0, .ref ob)] := hl
  refine lv_aload_n hx hb dX9_takesSign_0 rfl (lv_at hl 0 rfl) ?_
  obtain ⟨hPc, hDc, hFc⟩ := sub3 hP hD hS hA (ws' := [(ob, .inr (9, [.int obv0, .int obv1, .int obv2, .ref obd, .ref ob_4, .int obv5, .int obv6, .int obv7, .int obv8])), (ob_4, .inl (k 1, 1000, .inl obg4))]) [0, 1] (by decide +kernel) rfl
  refine va_callv (va_runV (C := RX9) (As := []) (rest := []) ⟨hx, hb, hml, hown, hts⟩ (c_X9_advance l D k ob obv0 obv1 obv2 obd ob_4 obv5 obv6 obv7 obv8 obg4 s.heap.size (show 0 ≤ obv0.toInt ∧ obv0.toInt ≤ 1000 from by omega) (show 0 ≤ obv7.toInt ∧ obv7.toInt ≤ 1000 from by omega)) (cwV 0 hts (gV tw_2_238 tw_3_0 tw_p_0 tw_1_2 tw_3_1) rfl rfl rfl hdV_X9_advance ⟨Nat.le_of_ble_eq_true rfl, Nat.le_of_ble_eq_true rfl⟩) (cz_V hK hPc hDc hN (ci := 9) (q0 := 0) rfl rfl []) rfl rfl hl.1 rfl (lv_room (Nat.le_of_ble_eq_true rfl)) dX9_takesSign_1 ⟨Nat.le_of_ble_eq_true rfl, Nat.le_of_ble_eq_true rfl⟩) hS (fun q _ h => hFc q h) hFc (fun uZ tZ H1 locs ht hvm hw hB hz1 hk1 hS => ?_)
  obtain ⟨o_2, o_3, o_4, o_5⟩ := uZ
  obtain ⟨hP1, hK1, hD1⟩ := hB
  rw [ht] at hP1
  obtain ⟨hP, hD⟩ := va_join (wr := []) (w1 := [(ob, .inr (9, [.int obv0, .int obv1, .int obv2, .ref obd, .ref ob_4, .int o_2, .int o_3, .int o_4, .int o_5])), (ob_4, .inl (k 1, 1000, .inl obg4))]) hP hD [0, 1] [] rfl rfl (by decide +kernel) (by decide +kernel) hk1 hFc hP1 hD1
  clear hK1 hP1 hD1 hPc hDc hFc
  clear hk1 hz1 ht hvm
  have hP : va_P D vwCl [(ob, .inr (9, [.int obv0, .int obv1, .int obv2, .ref obd, .ref ob_4, .int o_2, .int o_3, .int o_4, .int o_5])), (ob_4, .inl (k 1, 1000, .inl obg4))] H1 := hP
  have hD : va_D A [(ob, .inr (9, [.int obv0, .int obv1, .int obv2, .ref obd, .ref ob_4, .int o_2, .int o_3, .int o_4, .int o_5])), (ob_4, .inl (k 1, 1000, .inl obg4))] := hD
  generalize H1 = H at hP hS ⊢
  have hw_6 : (0 ≤ o_2.toInt ∧ o_2.toInt ≤ 4) ∧ (0 ≤ o_3.toInt ∧ o_3.toInt ≤ 1000) ∧ (0 ≤ o_4.toInt ∧ o_4.toInt ≤ 1000) ∧ ((-2147483648) ≤ o_5.toInt ∧ o_5.toInt ≤ 1000000) := hw
  obtain ⟨hw_7, hw_8, hw_9, hw_10⟩ := hw_6
  clear hw
  refine lv_aload_n hx hb dX9_takesSign_4 rfl (lv_at hl 0 rfl) ?_
  obtain ⟨hPc, hDc, hFc⟩ := sub3 hP hD hS hA (ws' := [(ob, .inr (9, [.int obv0, .int obv1, .int obv2, .ref obd, .ref ob_4, .int o_2, .int o_3, .int o_4, .int o_5]))]) [0] (by decide +kernel) rfl
  refine va_calli (va_runV (C := RX9) (As := []) (rest := []) ⟨hx, hb, hml, hown, hts⟩ (c_X9_isSign l D k ob obv0 obv1 obv2 obd ob_4 o_2 o_3 o_4 o_5 H.size (show 0 ≤ obv0.toInt ∧ obv0.toInt ≤ 1000 from by omega)) (cwV 0 hts (gV tw_3_97 tw_3_99 tw_p_9 tw_1_2 tw_3_100) rfl rfl rfl hdV_X9_isSign ⟨Nat.le_of_ble_eq_true rfl, Nat.le_of_ble_eq_true rfl⟩) (cz_V hK hPc hDc hN (ci := 9) (q0 := 0) rfl rfl []) rfl rfl hl.1 rfl (lv_room (Nat.le_of_ble_eq_true rfl)) dX9_takesSign_5 ⟨Nat.le_of_ble_eq_true rfl, Nat.le_of_ble_eq_true rfl⟩) hS (fun q _ h => hFc q h) hFc (fun r_11 uZ tZ H1 locs ht hvm hw hB hz1 hk1 hS => ?_)
  obtain ⟨o_12, o_13⟩ := uZ
  obtain ⟨hP1, hK1, hD1⟩ := hB
  rw [ht] at hP1
  obtain ⟨hP, hD⟩ := va_join (wr := [(ob_4, .inl (k 1, 1000, .inl obg4))]) (w1 := [(ob, .inr (9, [.int obv0, .int o_12, .int o_13, .ref obd, .ref ob_4, .int o_2, .int o_3, .int o_4, .int o_5]))]) hP hD [0] [1] rfl rfl (by decide +kernel) (by decide +kernel) hk1 hFc hP1 hD1
  clear hK1 hP1 hD1 hPc hDc hFc
  clear hk1 hz1 ht hvm
  have hP : va_P D vwCl [(ob_4, .inl (k 1, 1000, .inl obg4)), (ob, .inr (9, [.int obv0, .int o_12, .int o_13, .ref obd, .ref ob_4, .int o_2, .int o_3, .int o_4, .int o_5]))] H1 := hP
  have hD : va_D A [(ob_4, .inl (k 1, 1000, .inl obg4)), (ob, .inr (9, [.int obv0, .int o_12, .int o_13, .ref obd, .ref ob_4, .int o_2, .int o_3, .int o_4, .int o_5]))] := hD
  generalize H1 = H at hP hS ⊢
  have hw_14 : (0 ≤ r_11.toInt ∧ r_11.toInt ≤ 1) := hw
  have hw_15 := hw_14
  clear hw
  obtain ⟨hP9, hD9⟩ := sub2 hP hD (ws' := [(ob, .inr (9, [.int obv0, .int o_12, .int o_13, .ref obd, .ref ob_4, .int o_2, .int o_3, .int o_4, .int o_5])), (ob_4, .inl (k 1, 1000, .inl obg4))]) [1, 0] (by decide +kernel) rfl
  exact W.zret (v := r_11) hx hb hr (z_nar (by omega)) (fun tZ ht hW => ⟨⟨r_11, (o_12, o_13, o_2, o_3, o_4, o_5), rfl, ⟨(show 0 ≤ r_11.toInt ∧ r_11.toInt ≤ 1 from by omega), (show 0 ≤ o_2.toInt ∧ o_2.toInt ≤ 4 from by omega), (show 0 ≤ o_3.toInt ∧ o_3.toInt ≤ 1000 from by omega), (show 0 ≤ o_4.toInt ∧ o_4.toInt ≤ 1000 from by omega), (show (-2147483648) ≤ o_5.toInt ∧ o_5.toInt ≤ 1000000 from by have := z_rng o_5; omega)⟩, by rw [ht]; exact hP9, va_K.moved hW.alike hK, hD9⟩, hS.F ht⟩) hS.2.2 dX9_takesSign_8
set_option maxHeartbeats 4000000 in
set_option maxRecDepth 100000 in
theorem c_X9_readsTown (l : Launch) (D : va_G) (k : Nat → ClassId) (adK : Nat → Nat) (adV : Nat → Nat) (vF : Value) (ob : Nat) (obv0 : Int32) (obv1 : Int32) (obv2 : Int32) (obd : Nat) (ob_4 : Nat) (obv5 : Int32) (obv6 : Int32) (obv7 : Int32) (obv8 : Int32) (obdv0 : Int32) (obdv1 : Int32) (obdv2 : Int32) (obd_3 : Nat) (obd_4 : Nat) (obd_5 : Nat) (obd_6 : Nat) (obdv7 : Int32) (obdv8 : Int32) (obd_9 : Nat) (obd_10 : Nat) (obdv11 : Int32) (obd_12 : Nat) (obd_13 : Nat) (obd_14 : Nat) (obd_15 : Nat) (obdv16 : Int32) (obd_17 : Nat) (obd_18 : Nat) (obdt : Nat) (obg4 : Nat → Int32) (sz : Nat) (h_obv0 : 0 ≤ obv0.toInt ∧ obv0.toInt ≤ 1000) (h_obv7 : 0 ≤ obv7.toInt ∧ obv7.toInt ≤ 1000) (h_obdv0 : 0 ≤ obdv0.toInt ∧ obdv0.toInt ≤ 8) (h_obdv2 : 0 ≤ obdv2.toInt ∧ obdv2.toInt ≤ 10) (h_obdv8 : 0 ≤ obdv8.toInt ∧ obdv8.toInt ≤ 4) (h_obdv11 : 0 ≤ obdv11.toInt ∧ obdv11.toInt ≤ 6) (h_obdv16 : 0 ≤ obdv16.toInt ∧ obdv16.toInt ≤ 2) : Met l yX9_readsTown (ww yX9_readsTown cX9_readsTown 1 (some .boolean)) ({ frames := 6, cells := 0, slots := 0, locals := 128 }) (Pre1 D k adK adV vF [(ob, .inr (9, [.int obv0, .int obv1, .int obv2, .ref obd, .ref ob_4, .int obv5, .int obv6, .int obv7, .int obv8])), (obd, .inr (10, [.int obdv0, .int obdv1, .int obdv2, .ref obd_3, .ref obd_4, .ref obd_5, .ref obd_6, .int obdv7, .int obdv8, .ref obd_9, .ref obd_10, .int obdv11, .ref obd_12, .ref obd_13, .ref obd_14, .ref obd_15, .int obdv16, .ref obd_17, .ref obd_18, .ref obdt])), (ob_4, .inl (k 1, 1000, .inl obg4))] sz [.ref ob]) (va_Qi (fun (r : Int32) (u : Int32 × Int32 × Int32 × Int32 × Int32 × Int32 × Int32) => match u with | (obv1z, obv2z, obv5z, obv6z, obv7z, obv8z, obdv0z) => (0 ≤ r.toInt ∧ r.toInt ≤ 1) ∧ (0 ≤ obv5z.toInt ∧ obv5z.toInt ≤ 4) ∧ (0 ≤ obv6z.toInt ∧ obv6z.toInt ≤ 1000) ∧ (0 ≤ obv7z.toInt ∧ obv7z.toInt ≤ 1000) ∧ ((-2147483648) ≤ obv8z.toInt ∧ obv8z.toInt ≤ 1000000) ∧ (0 ≤ obdv0z.toInt ∧ obdv0z.toInt ≤ 8)) (fun (u : Int32 × Int32 × Int32 × Int32 × Int32 × Int32 × Int32) tZ => match u with | (obv1z, obv2z, obv5z, obv6z, obv7z, obv8z, obdv0z) => Bw D k (va_A [(ob, .inr (9, [.int obv0, .int obv1, .int obv2, .ref obd, .ref ob_4, .int obv5, .int obv6, .int obv7, .int obv8])), (obd, .inr (10, [.int obdv0, .int obdv1, .int obdv2, .ref obd_3, .ref obd_4, .ref obd_5, .ref obd_6, .int obdv7, .int obdv8, .ref obd_9, .ref obd_10, .int obdv11, .ref obd_12, .ref obd_13, .ref obd_14, .ref obd_15, .int obdv16, .ref obd_17, .ref obd_18, .ref obdt])), (ob_4, .inl (k 1, 1000, .inl obg4))] sz) [(ob, .inr (9, [.int obv0, .int obv1z, .int obv2z, .ref obd, .ref ob_4, .int obv5z, .int obv6z, .int obv7z, .int obv8z])), (obd, .inr (10, [.int obdv0z, .int obdv1, .int obdv2, .ref obd_3, .ref obd_4, .ref obd_5, .ref obd_6, .int obdv7, .int obdv8, .ref obd_9, .ref obd_10, .int obdv11, .ref obd_12, .ref obd_13, .ref obd_14, .ref obd_15, .int obdv16, .ref obd_17, .ref obd_18, .ref obdt])), (ob_4, .inl (k 1, 1000, .inl obg4))] tZ) (va_A [(ob, .inr (9, [.int obv0, .int obv1, .int obv2, .ref obd, .ref ob_4, .int obv5, .int obv6, .int obv7, .int obv8])), (obd, .inr (10, [.int obdv0, .int obdv1, .int obdv2, .ref obd_3, .ref obd_4, .ref obd_5, .ref obd_6, .int obdv7, .int obdv8, .ref obd_9, .ref obd_10, .int obdv11, .ref obd_12, .ref obd_13, .ref obd_14, .ref obd_15, .int obdv16, .ref obd_17, .ref obd_18, .ref obdt])), (ob_4, .inl (k 1, 1000, .inl obg4))] sz)) 0 0 (va_A [(ob, .inr (9, [.int obv0, .int obv1, .int obv2, .ref obd, .ref ob_4, .int obv5, .int obv6, .int obv7, .int obv8])), (obd, .inr (10, [.int obdv0, .int obdv1, .int obdv2, .ref obd_3, .ref obd_4, .ref obd_5, .ref obd_6, .int obdv7, .int obdv8, .ref obd_9, .ref obd_10, .int obdv11, .ref obd_12, .ref obd_13, .ref obd_14, .ref obd_15, .int obdv16, .ref obd_17, .ref obd_18, .ref obdt])), (ob_4, .inl (k 1, 1000, .inl obg4))] sz) := by
  refine Met.ofW (cc := cX9_readsTown) (maxL := 1) (ret := (some .boolean)) (by decide +kernel) rfl ?_
  intro p e s m args below meth c s₁ B hml hv
  obtain ⟨rfl, hsz, hP, hK, hD0, hN, hStr⟩ := hv
  have hx := B.exec
  have hb := B.bytes
  have hr := B.returns
  have hts : ∀ w ∈ TT, w.before _ s = true := fun w h => atoms_spec (ws := ww yX9_readsTown cX9_readsTown 1 (some .boolean)) B.pre w (List.mem_cons_of_mem _ h)
  have hown : s.vm.findClass RX9 = some m.cls := findClass_of_methodNamed B.named
  have hlocks := B.notSynchronized
  subst hsz
  have hD := hD0.self (sz := s.heap.size)
  generalize hAe : va_A [(ob, .inr (9, [.int obv0, .int obv1, .int obv2, .ref obd, .ref ob_4, .int obv5, .int obv6, .int obv7, .int obv8])), (obd, .inr (10, [.int obdv0, .int obdv1, .int obdv2, .ref obd_3, .ref obd_4, .ref obd_5, .ref obd_6, .int obdv7, .int obdv8, .ref obd_9, .ref obd_10, .int obdv11, .ref obd_12, .ref obd_13, .ref obd_14, .ref obd_15, .int obdv16, .ref obd_17, .ref obd_18, .ref obdt])), (ob_4, .inl (k 1, 1000, .inl obg4))] s.heap.size = A at hD hStr ⊢
  have hA : ∀ q : Nat, s.heap.size ≤ q → A q := fun q h => by rw [← hAe]; exact Or.inr h
  have hS : va_S A s.heap s.heap [] := va_S.rf
  have hl := lv_entry ([.ref ob]) (n := 1) (Nat.le_of_ble_eq_true rfl)
  rw [lg_entry_eq]
  generalize (lg_sl ([.ref ob]) ++ List.replicate (1 - (lg_sl ([.ref ob])).length) Slot.unset).toArray = ls at hl ⊢
  have hl : lv_has ls 1 [(0, .ref ob)] := hl
  refine lv_aload_n hx hb dX9_readsTown_0 rfl (lv_at hl 0 rfl) ?_
  refine va_ldcS (q := adK 1) hx hb hown (hStr.2.1 (1, 105, "streets") (List.mem_of_getElem? (i := 1) rfl)) dX9_readsTown_1 ?_
  obtain ⟨hPc, hDc, hFc⟩ := sub3 hP hD hS hA (ws' := [(ob, .inr (9, [.int obv0, .int obv1, .int obv2, .ref obd, .ref ob_4, .int obv5, .int obv6, .int obv7, .int obv8])), (ob_4, .inl (k 1, 1000, .inl obg4))]) [0, 2] (by decide +kernel) rfl
  refine va_calli (va_runV (C := RX9) (As := [.ref (adK 1)]) (rest := []) ⟨hx, hb, hml, hown, hts⟩ (c_X9_takesWord l D k adK adV vF 1 ob obv0 obv1 obv2 obd ob_4 obv5 obv6 obv7 obv8 obg4 s.heap.size (by decide) (show 0 ≤ obv0.toInt ∧ obv0.toInt ≤ 1000 from by omega) (show 0 ≤ obv7.toInt ∧ obv7.toInt ≤ 1000 from by omega)) (cwV 1 hts (gV tw_3_81 tw_3_83 tw_p_5 tw_1_2 tw_3_84) rfl rfl rfl hdV_X9_takesWord ⟨Nat.le_of_ble_eq_true rfl, Nat.le_of_ble_eq_true rfl⟩) (cz_V1 hK hPc hDc hN hStr hS hFc (ci := 9) (q0 := 0) rfl rfl [.ref (adK 1)]) rfl rfl hl.1 rfl (lv_room (Nat.le_of_ble_eq_true rfl)) dX9_readsTown_3 ⟨Nat.le_of_ble_eq_true rfl, Nat.le_of_ble_eq_true rfl⟩) hS (fun q _ h => hFc q h) hFc (fun r_1 uZ tZ H1 locs ht hvm hw hB hz1 hk1 hS => ?_)
  obtain ⟨o_2, o_3, o_4, o_5, o_6, o_7⟩ := uZ
  obtain ⟨hP1, hK1, hD1⟩ := hB
  rw [ht] at hP1
  obtain ⟨hP, hD⟩ := va_join (wr := [(obd, .inr (10, [.int obdv0, .int obdv1, .int obdv2, .ref obd_3, .ref obd_4, .ref obd_5, .ref obd_6, .int obdv7, .int obdv8, .ref obd_9, .ref obd_10, .int obdv11, .ref obd_12, .ref obd_13, .ref obd_14, .ref obd_15, .int obdv16, .ref obd_17, .ref obd_18, .ref obdt]))]) (w1 := [(ob, .inr (9, [.int obv0, .int o_6, .int o_7, .ref obd, .ref ob_4, .int o_2, .int o_3, .int o_4, .int o_5])), (ob_4, .inl (k 1, 1000, .inl obg4))]) hP hD [0, 2] [1] rfl rfl (by decide +kernel) (by decide +kernel) hk1 hFc hP1 hD1
  clear hK1 hP1 hD1 hPc hDc hFc
  clear hk1 hz1 ht hvm
  have hP : va_P D vwCl [(obd, .inr (10, [.int obdv0, .int obdv1, .int obdv2, .ref obd_3, .ref obd_4, .ref obd_5, .ref obd_6, .int obdv7, .int obdv8, .ref obd_9, .ref obd_10, .int obdv11, .ref obd_12, .ref obd_13, .ref obd_14, .ref obd_15, .int obdv16, .ref obd_17, .ref obd_18, .ref obdt])), (ob, .inr (9, [.int obv0, .int o_6, .int o_7, .ref obd, .ref ob_4, .int o_2, .int o_3, .int o_4, .int o_5])), (ob_4, .inl (k 1, 1000, .inl obg4))] H1 := hP
  have hD : va_D A [(obd, .inr (10, [.int obdv0, .int obdv1, .int obdv2, .ref obd_3, .ref obd_4, .ref obd_5, .ref obd_6, .int obdv7, .int obdv8, .ref obd_9, .ref obd_10, .int obdv11, .ref obd_12, .ref obd_13, .ref obd_14, .ref obd_15, .int obdv16, .ref obd_17, .ref obd_18, .ref obdt])), (ob, .inr (9, [.int obv0, .int o_6, .int o_7, .ref obd, .ref ob_4, .int o_2, .int o_3, .int o_4, .int o_5])), (ob_4, .inl (k 1, 1000, .inl obg4))] := hD
  generalize H1 = H at hP hS ⊢
  have hw_8 : (0 ≤ r_1.toInt ∧ r_1.toInt ≤ 1) ∧ (0 ≤ o_2.toInt ∧ o_2.toInt ≤ 4) ∧ (0 ≤ o_3.toInt ∧ o_3.toInt ≤ 1000) ∧ (0 ≤ o_4.toInt ∧ o_4.toInt ≤ 1000) ∧ ((-2147483648) ≤ o_5.toInt ∧ o_5.toInt ≤ 1000000) := hw
  obtain ⟨hw_9, hw_10, hw_11, hw_12, hw_13⟩ := hw_8
  clear hw
  refine lv_if_eq (tgt := 19) hx hb dX9_readsTown_6 (by decide) (fun h_14 => ?_) (fun h_14 => ?_)
  · skip
    have zh_14 : r_1.toInt = 0 := z_eq h_14
    refine lv_iconst (v := 0) hx hb dX9_readsTown_19 (by decide) ?_
    obtain ⟨hP9, hD9⟩ := sub2 hP hD (ws' := [(ob, .inr (9, [.int obv0, .int o_6, .int o_7, .ref obd, .ref ob_4, .int o_2, .int o_3, .int o_4, .int o_5])), (obd, .inr (10, [.int obdv0, .int obdv1, .int obdv2, .ref obd_3, .ref obd_4, .ref obd_5, .ref obd_6, .int obdv7, .int obdv8, .ref obd_9, .ref obd_10, .int obdv11, .ref obd_12, .ref obd_13, .ref obd_14, .ref obd_15, .int obdv16, .ref obd_17, .ref obd_18, .ref obdt])), (ob_4, .inl (k 1, 1000, .inl obg4))]) [1, 0, 2] (by decide +kernel) rfl
    exact W.zret (v := 0) hx hb hr (by decide) (fun tZ ht hW => ⟨⟨0, (o_6, o_7, o_2, o_3, o_4, o_5, obdv0), rfl, ⟨(show 0 ≤ 0 ∧ 0 ≤ 1 from by omega), (show 0 ≤ o_2.toInt ∧ o_2.toInt ≤ 4 from by omega), (show 0 ≤ o_3.toInt ∧ o_3.toInt ≤ 1000 from by omega), (show 0 ≤ o_4.toInt ∧ o_4.toInt ≤ 1000 from by omega), (show (-2147483648) ≤ o_5.toInt ∧ o_5.toInt ≤ 1000000 from by have := z_rng o_5; omega), (show 0 ≤ obdv0.toInt ∧ obdv0.toInt ≤ 8 from by omega)⟩, by rw [ht]; exact hP9, va_K.moved hW.alike hK, hD9⟩, hS.F ht⟩) hS.2.2 dX9_readsTown_20
  · skip
    have zh_14 : ¬ r_1.toInt = 0 := z_ne h_14
    refine lv_aload_n hx hb dX9_readsTown_9 rfl (lv_at hl 0 rfl) ?_
    refine lv_iconst (v := 2) hx hb dX9_readsTown_10 (by decide) ?_
    refine lv_bipush (v := 8) hx hb dX9_readsTown_11 (by decide) ?_
    obtain ⟨hPc, hDc, hFc⟩ := sub3 hP hD hS hA (ws' := [(ob, .inr (9, [.int obv0, .int o_6, .int o_7, .ref obd, .ref ob_4, .int o_2, .int o_3, .int o_4, .int o_5])), (ob_4, .inl (k 1, 1000, .inl obg4))]) [1, 2] (by decide +kernel) rfl
    refine va_calli (va_runV (C := RX9) (As := [.int 2, .int 8]) (rest := []) ⟨hx, hb, hml, hown, hts⟩ (c_X9_takesNumber l D k ob 2 8 obv0 o_6 o_7 obd ob_4 o_2 o_3 o_4 o_5 obg4 H.size (show 0 ≤ obv0.toInt ∧ obv0.toInt ≤ 1000 from by omega) (show 0 ≤ o_4.toInt ∧ o_4.toInt ≤ 1000 from by omega)) (cwV 2 hts (gV tw_3_89 tw_3_91 tw_p_7 tw_1_2 tw_3_92) rfl rfl rfl hdV_X9_takesNumber ⟨Nat.le_of_ble_eq_true rfl, Nat.le_of_ble_eq_true rfl⟩) (cz_V hK hPc hDc hN (ci := 9) (q0 := 0) rfl rfl [.int 2, .int 8]) rfl rfl hl.1 rfl (lv_room (Nat.le_of_ble_eq_true rfl)) dX9_readsTown_13 ⟨Nat.le_of_ble_eq_true rfl, Nat.le_of_ble_eq_true rfl⟩) hS (fun q _ h => hFc q h) hFc (fun r_15 uZ tZ H1 locs ht hvm hw hB hz1 hk1 hS => ?_)
    obtain ⟨o_16, o_17, o_18, o_19, o_20, o_21⟩ := uZ
    obtain ⟨hP1, hK1, hD1⟩ := hB
    rw [ht] at hP1
    obtain ⟨hP, hD⟩ := va_join (wr := [(obd, .inr (10, [.int obdv0, .int obdv1, .int obdv2, .ref obd_3, .ref obd_4, .ref obd_5, .ref obd_6, .int obdv7, .int obdv8, .ref obd_9, .ref obd_10, .int obdv11, .ref obd_12, .ref obd_13, .ref obd_14, .ref obd_15, .int obdv16, .ref obd_17, .ref obd_18, .ref obdt]))]) (w1 := [(ob, .inr (9, [.int obv0, .int o_16, .int o_17, .ref obd, .ref ob_4, .int o_18, .int o_19, .int o_20, .int o_21])), (ob_4, .inl (k 1, 1000, .inl obg4))]) hP hD [1, 2] [0] rfl rfl (by decide +kernel) (by decide +kernel) hk1 hFc hP1 hD1
    clear hK1 hP1 hD1 hPc hDc hFc
    clear hk1 hz1 ht hvm
    have hP : va_P D vwCl [(obd, .inr (10, [.int obdv0, .int obdv1, .int obdv2, .ref obd_3, .ref obd_4, .ref obd_5, .ref obd_6, .int obdv7, .int obdv8, .ref obd_9, .ref obd_10, .int obdv11, .ref obd_12, .ref obd_13, .ref obd_14, .ref obd_15, .int obdv16, .ref obd_17, .ref obd_18, .ref obdt])), (ob, .inr (9, [.int obv0, .int o_16, .int o_17, .ref obd, .ref ob_4, .int o_18, .int o_19, .int o_20, .int o_21])), (ob_4, .inl (k 1, 1000, .inl obg4))] H1 := hP
    have hD : va_D A [(obd, .inr (10, [.int obdv0, .int obdv1, .int obdv2, .ref obd_3, .ref obd_4, .ref obd_5, .ref obd_6, .int obdv7, .int obdv8, .ref obd_9, .ref obd_10, .int obdv11, .ref obd_12, .ref obd_13, .ref obd_14, .ref obd_15, .int obdv16, .ref obd_17, .ref obd_18, .ref obdt])), (ob, .inr (9, [.int obv0, .int o_16, .int o_17, .ref obd, .ref ob_4, .int o_18, .int o_19, .int o_20, .int o_21])), (ob_4, .inl (k 1, 1000, .inl obg4))] := hD
    generalize H1 = H at hP hS ⊢
    have hw_22 : (0 ≤ r_15.toInt ∧ r_15.toInt ≤ 1) ∧ (0 ≤ o_18.toInt ∧ o_18.toInt ≤ 4) ∧ (0 ≤ o_19.toInt ∧ o_19.toInt ≤ 1000) ∧ (0 ≤ o_20.toInt ∧ o_20.toInt ≤ 1000) ∧ ((-2147483648) ≤ o_21.toInt ∧ o_21.toInt ≤ 1000000) ∧ (r_15.toInt = 0 ∨ (2 ≤ o_21.toInt ∧ o_21.toInt ≤ 8)) := hw
    obtain ⟨hw_23, hw_24, hw_25, hw_26, hw_27, hw_28⟩ := hw_22
    clear hw
    refine lv_if_ne (tgt := 21) hx hb dX9_readsTown_16 (by decide) (fun h_29 => ?_) (fun h_29 => ?_)
    · skip
      have zh_29 : ¬ r_15.toInt = 0 := z_ne h_29
      refine lv_aload_n hx hb dX9_readsTown_21 rfl (lv_at hl 0 rfl) ?_
      refine va_get (D := D) (ci := 9) (v := .ref obd) (C := RX9) (T := TX9) (N := 9) hx hb hts iT_X9 hown hK hP 1 rfl rfl 3 (by decide) (hts _ tw_1_201) (fun _ h9 => h9) rfl dX9_readsTown_22 ?_
      refine lv_aload_n hx hb dX9_readsTown_25 rfl (lv_at hl 0 rfl) ?_
      refine va_get (D := D) (ci := 9) (v := .int o_21) (C := RX9) (T := TX9) (N := 9) hx hb hts iT_X9 hown hK hP 1 rfl rfl 8 (by decide) (hts _ tw_1_207) (fun _ h9 => h9) rfl dX9_readsTown_26 ?_
      refine va_put (D := D) (ci := 10) (v := .int o_21) (ty := tyX10 0) (C := RX10) (T := TX10) (N := 20) hx hb hts iT_X10 tyX10 tyX10_ok nmX10 hown hK hP hD hS 0 rfl rfl 0 (by decide) (hts _ tw_1_71) (fun _ h9 => h9) rfl (tyX10_ok 0 (by decide)) rfl rfl (Nat.le_of_ble_eq_true rfl) dX9_readsTown_29 (fun H locs hP hD hS => ?_)
      have hP : va_P D vwCl [(obd, .inr (10, [.int o_21, .int obdv1, .int obdv2, .ref obd_3, .ref obd_4, .ref obd_5, .ref obd_6, .int obdv7, .int obdv8, .ref obd_9, .ref obd_10, .int obdv11, .ref obd_12, .ref obd_13, .ref obd_14, .ref obd_15, .int obdv16, .ref obd_17, .ref obd_18, .ref obdt])), (ob, .inr (9, [.int obv0, .int o_16, .int o_17, .ref obd, .ref ob_4, .int o_18, .int o_19, .int o_20, .int o_21])), (ob_4, .inl (k 1, 1000, .inl obg4))] H := hP
      have hD : va_D A [(obd, .inr (10, [.int o_21, .int obdv1, .int obdv2, .ref obd_3, .ref obd_4, .ref obd_5, .ref obd_6, .int obdv7, .int obdv8, .ref obd_9, .ref obd_10, .int obdv11, .ref obd_12, .ref obd_13, .ref obd_14, .ref obd_15, .int obdv16, .ref obd_17, .ref obd_18, .ref obdt])), (ob, .inr (9, [.int obv0, .int o_16, .int o_17, .ref obd, .ref ob_4, .int o_18, .int o_19, .int o_20, .int o_21])), (ob_4, .inl (k 1, 1000, .inl obg4))] := hD
      refine lv_aload_n hx hb dX9_readsTown_32 rfl (lv_at hl 0 rfl) ?_
      obtain ⟨hPc, hDc, hFc⟩ := sub3 hP hD hS hA (ws' := [(ob, .inr (9, [.int obv0, .int o_16, .int o_17, .ref obd, .ref ob_4, .int o_18, .int o_19, .int o_20, .int o_21])), (ob_4, .inl (k 1, 1000, .inl obg4))]) [1, 2] (by decide +kernel) rfl
      refine va_calli (va_runV (C := RX9) (As := []) (rest := []) ⟨hx, hb, hml, hown, hts⟩ (c_X9_takesSign l D k ob obv0 o_16 o_17 obd ob_4 o_18 o_19 o_20 o_21 obg4 H.size (show 0 ≤ obv0.toInt ∧ obv0.toInt ≤ 1000 from by omega) (show 0 ≤ o_20.toInt ∧ o_20.toInt ≤ 1000 from by omega)) (cwV 0 hts (gV tw_3_93 tw_3_95 tw_p_8 tw_1_2 tw_3_96) rfl rfl rfl hdV_X9_takesSign ⟨Nat.le_of_ble_eq_true rfl, Nat.le_of_ble_eq_true rfl⟩) (cz_V hK hPc hDc hN (ci := 9) (q0 := 0) rfl rfl []) rfl rfl hl.1 rfl (lv_room (Nat.le_of_ble_eq_true rfl)) dX9_readsTown_33 ⟨Nat.le_of_ble_eq_true rfl, Nat.le_of_ble_eq_true rfl⟩) hS (fun q _ h => hFc q h) hFc (fun r_30 uZ tZ H1 locs ht hvm hw hB hz1 hk1 hS => ?_)
      obtain ⟨o_31, o_32, o_33, o_34, o_35, o_36⟩ := uZ
      obtain ⟨hP1, hK1, hD1⟩ := hB
      rw [ht] at hP1
      obtain ⟨hP, hD⟩ := va_join (wr := [(obd, .inr (10, [.int o_21, .int obdv1, .int obdv2, .ref obd_3, .ref obd_4, .ref obd_5, .ref obd_6, .int obdv7, .int obdv8, .ref obd_9, .ref obd_10, .int obdv11, .ref obd_12, .ref obd_13, .ref obd_14, .ref obd_15, .int obdv16, .ref obd_17, .ref obd_18, .ref obdt]))]) (w1 := [(ob, .inr (9, [.int obv0, .int o_31, .int o_32, .ref obd, .ref ob_4, .int o_33, .int o_34, .int o_35, .int o_36])), (ob_4, .inl (k 1, 1000, .inl obg4))]) hP hD [1, 2] [0] rfl rfl (by decide +kernel) (by decide +kernel) hk1 hFc hP1 hD1
      clear hK1 hP1 hD1 hPc hDc hFc
      clear hk1 hz1 ht hvm
      have hP : va_P D vwCl [(obd, .inr (10, [.int o_21, .int obdv1, .int obdv2, .ref obd_3, .ref obd_4, .ref obd_5, .ref obd_6, .int obdv7, .int obdv8, .ref obd_9, .ref obd_10, .int obdv11, .ref obd_12, .ref obd_13, .ref obd_14, .ref obd_15, .int obdv16, .ref obd_17, .ref obd_18, .ref obdt])), (ob, .inr (9, [.int obv0, .int o_31, .int o_32, .ref obd, .ref ob_4, .int o_33, .int o_34, .int o_35, .int o_36])), (ob_4, .inl (k 1, 1000, .inl obg4))] H1 := hP
      have hD : va_D A [(obd, .inr (10, [.int o_21, .int obdv1, .int obdv2, .ref obd_3, .ref obd_4, .ref obd_5, .ref obd_6, .int obdv7, .int obdv8, .ref obd_9, .ref obd_10, .int obdv11, .ref obd_12, .ref obd_13, .ref obd_14, .ref obd_15, .int obdv16, .ref obd_17, .ref obd_18, .ref obdt])), (ob, .inr (9, [.int obv0, .int o_31, .int o_32, .ref obd, .ref ob_4, .int o_33, .int o_34, .int o_35, .int o_36])), (ob_4, .inl (k 1, 1000, .inl obg4))] := hD
      generalize H1 = H at hP hS ⊢
      have hw_37 : (0 ≤ r_30.toInt ∧ r_30.toInt ≤ 1) ∧ (0 ≤ o_33.toInt ∧ o_33.toInt ≤ 4) ∧ (0 ≤ o_34.toInt ∧ o_34.toInt ≤ 1000) ∧ (0 ≤ o_35.toInt ∧ o_35.toInt ≤ 1000) ∧ ((-2147483648) ≤ o_36.toInt ∧ o_36.toInt ≤ 1000000) := hw
      obtain ⟨hw_38, hw_39, hw_40, hw_41, hw_42⟩ := hw_37
      clear hw
      obtain ⟨hP9, hD9⟩ := sub2 hP hD (ws' := [(ob, .inr (9, [.int obv0, .int o_31, .int o_32, .ref obd, .ref ob_4, .int o_33, .int o_34, .int o_35, .int o_36])), (obd, .inr (10, [.int o_21, .int obdv1, .int obdv2, .ref obd_3, .ref obd_4, .ref obd_5, .ref obd_6, .int obdv7, .int obdv8, .ref obd_9, .ref obd_10, .int obdv11, .ref obd_12, .ref obd_13, .ref obd_14, .ref obd_15, .int obdv16, .ref obd_17, .ref obd_18, .ref obdt])), (ob_4, .inl (k 1, 1000, .inl obg4))]) [1, 0, 2] (by decide +kernel) rfl
      exact W.zret (v := r_30) hx hb hr (z_nar (by omega)) (fun tZ ht hW => ⟨⟨r_30, (o_31, o_32, o_33, o_34, o_35, o_36, o_21), rfl, ⟨(show 0 ≤ r_30.toInt ∧ r_30.toInt ≤ 1 from by omega), (show 0 ≤ o_33.toInt ∧ o_33.toInt ≤ 4 from by omega), (show 0 ≤ o_34.toInt ∧ o_34.toInt ≤ 1000 from by omega), (show 0 ≤ o_35.toInt ∧ o_35.toInt ≤ 1000 from by omega), (show (-2147483648) ≤ o_36.toInt ∧ o_36.toInt ≤ 1000000 from by have := z_rng o_36; omega), (show 0 ≤ o_21.toInt ∧ o_21.toInt ≤ 8 from by omega)⟩, by rw [ht]; exact hP9, va_K.moved hW.alike hK, hD9⟩, hS.F ht⟩) hS.2.2 dX9_readsTown_36
    · skip
      have zh_29 : r_15.toInt = 0 := z_eq h_29
      refine lv_iconst (v := 0) hx hb dX9_readsTown_19 (by decide) ?_
      obtain ⟨hP9, hD9⟩ := sub2 hP hD (ws' := [(ob, .inr (9, [.int obv0, .int o_16, .int o_17, .ref obd, .ref ob_4, .int o_18, .int o_19, .int o_20, .int o_21])), (obd, .inr (10, [.int obdv0, .int obdv1, .int obdv2, .ref obd_3, .ref obd_4, .ref obd_5, .ref obd_6, .int obdv7, .int obdv8, .ref obd_9, .ref obd_10, .int obdv11, .ref obd_12, .ref obd_13, .ref obd_14, .ref obd_15, .int obdv16, .ref obd_17, .ref obd_18, .ref obdt])), (ob_4, .inl (k 1, 1000, .inl obg4))]) [1, 0, 2] (by decide +kernel) rfl
      exact W.zret (v := 0) hx hb hr (by decide) (fun tZ ht hW => ⟨⟨0, (o_16, o_17, o_18, o_19, o_20, o_21, obdv0), rfl, ⟨(show 0 ≤ 0 ∧ 0 ≤ 1 from by omega), (show 0 ≤ o_18.toInt ∧ o_18.toInt ≤ 4 from by omega), (show 0 ≤ o_19.toInt ∧ o_19.toInt ≤ 1000 from by omega), (show 0 ≤ o_20.toInt ∧ o_20.toInt ≤ 1000 from by omega), (show (-2147483648) ≤ o_21.toInt ∧ o_21.toInt ≤ 1000000 from by have := z_rng o_21; omega), (show 0 ≤ obdv0.toInt ∧ obdv0.toInt ≤ 8 from by omega)⟩, by rw [ht]; exact hP9, va_K.moved hW.alike hK, hD9⟩, hS.F ht⟩) hS.2.2 dX9_readsTown_20
set_option maxHeartbeats 4000000 in
set_option maxRecDepth 100000 in
theorem c_X9_readsLane (l : Launch) (D : va_G) (k : Nat → ClassId) (adK : Nat → Nat) (adV : Nat → Nat) (vF : Value) (ob : Nat) (p0 : Int32) (obv0 : Int32) (obv1 : Int32) (obv2 : Int32) (obd : Nat) (ob_4 : Nat) (obv5 : Int32) (obv6 : Int32) (obv7 : Int32) (obv8 : Int32) (obdv0 : Int32) (obdv1 : Int32) (obdv2 : Int32) (obd_3 : Nat) (obd_4 : Nat) (obd_5 : Nat) (obd_6 : Nat) (obdv7 : Int32) (obdv8 : Int32) (obd_9 : Nat) (obd_10 : Nat) (obdv11 : Int32) (obd_12 : Nat) (obd_13 : Nat) (obd_14 : Nat) (obd_15 : Nat) (obdv16 : Int32) (obd_17 : Nat) (obd_18 : Nat) (obdt : Nat) (obdg3 : Nat → Int32) (obdg4 : Nat → Int32) (obdg5 : Nat → Int32) (obdg6 : Nat → Int32) (obg4 : Nat → Int32) (sz : Nat) (h_p0 : 0 ≤ p0.toInt ∧ p0.toInt ≤ 9) (h_obv0 : 0 ≤ obv0.toInt ∧ obv0.toInt ≤ 1000) (h_obv7 : 0 ≤ obv7.toInt ∧ obv7.toInt ≤ 1000) (h_obdv0 : 0 ≤ obdv0.toInt ∧ obdv0.toInt ≤ 8) (h_obdv2 : 0 ≤ obdv2.toInt ∧ obdv2.toInt ≤ 9) (h_obdv8 : 0 ≤ obdv8.toInt ∧ obdv8.toInt ≤ 4) (h_obdv11 : 0 ≤ obdv11.toInt ∧ obdv11.toInt ≤ 6) (h_obdv16 : 0 ≤ obdv16.toInt ∧ obdv16.toInt ≤ 2) (hp_obdg3_0 : PR 10 1 0 0 7 obdg3) (hp_obdg4_0 : PR 10 1 0 0 7 obdg4) (hp_obdg5_0 : PR 10 1 0 0 60 obdg5) (hp_obdg6_0 : PR 10 1 0 0 10 obdg6) : Met l yX9_readsLane (ww yX9_readsLane cX9_readsLane 2 (some .boolean)) ({ frames := 6, cells := 0, slots := 0, locals := 128 }) (Pre1 D k adK adV vF [(ob, .inr (9, [.int obv0, .int obv1, .int obv2, .ref obd, .ref ob_4, .int obv5, .int obv6, .int obv7, .int obv8])), (obd, .inr (10, [.int obdv0, .int obdv1, .int obdv2, .ref obd_3, .ref obd_4, .ref obd_5, .ref obd_6, .int obdv7, .int obdv8, .ref obd_9, .ref obd_10, .int obdv11, .ref obd_12, .ref obd_13, .ref obd_14, .ref obd_15, .int obdv16, .ref obd_17, .ref obd_18, .ref obdt])), (obd_3, .inl (k 0, 10, .inl obdg3)), (obd_4, .inl (k 0, 10, .inl obdg4)), (obd_5, .inl (k 0, 10, .inl obdg5)), (obd_6, .inl (k 0, 10, .inl obdg6)), (ob_4, .inl (k 1, 1000, .inl obg4))] sz [.ref ob, .int p0]) (va_Qi (fun (r : Int32) (u : Int32 × Int32 × Int32 × Int32 × Int32 × Int32 × (Nat → Int32) × (Nat → Int32) × Int32 × (Nat → Int32) × (Nat → Int32)) => match u with | (obv1z, obv2z, obv5z, obv6z, obv7z, obv8z, obdg3z, obdg4z, obdv2z, obdg5z, obdg6z) => (0 ≤ r.toInt ∧ r.toInt ≤ 1) ∧ (0 ≤ obv5z.toInt ∧ obv5z.toInt ≤ 4) ∧ (0 ≤ obv6z.toInt ∧ obv6z.toInt ≤ 1000) ∧ (0 ≤ obv7z.toInt ∧ obv7z.toInt ≤ 1000) ∧ ((-2147483648) ≤ obv8z.toInt ∧ obv8z.toInt ≤ 1000000) ∧ (PR 10 1 0 0 7 obdg3z) ∧ (PR 10 1 0 0 7 obdg4z) ∧ (0 ≤ obdv2z.toInt ∧ obdv2z.toInt ≤ 10) ∧ (PR 10 1 0 0 60 obdg5z) ∧ (PR 10 1 0 0 10 obdg6z)) (fun (u : Int32 × Int32 × Int32 × Int32 × Int32 × Int32 × (Nat → Int32) × (Nat → Int32) × Int32 × (Nat → Int32) × (Nat → Int32)) tZ => match u with | (obv1z, obv2z, obv5z, obv6z, obv7z, obv8z, obdg3z, obdg4z, obdv2z, obdg5z, obdg6z) => Bw D k (va_A [(ob, .inr (9, [.int obv0, .int obv1, .int obv2, .ref obd, .ref ob_4, .int obv5, .int obv6, .int obv7, .int obv8])), (obd, .inr (10, [.int obdv0, .int obdv1, .int obdv2, .ref obd_3, .ref obd_4, .ref obd_5, .ref obd_6, .int obdv7, .int obdv8, .ref obd_9, .ref obd_10, .int obdv11, .ref obd_12, .ref obd_13, .ref obd_14, .ref obd_15, .int obdv16, .ref obd_17, .ref obd_18, .ref obdt])), (obd_3, .inl (k 0, 10, .inl obdg3)), (obd_4, .inl (k 0, 10, .inl obdg4)), (obd_5, .inl (k 0, 10, .inl obdg5)), (obd_6, .inl (k 0, 10, .inl obdg6)), (ob_4, .inl (k 1, 1000, .inl obg4))] sz) [(ob, .inr (9, [.int obv0, .int obv1z, .int obv2z, .ref obd, .ref ob_4, .int obv5z, .int obv6z, .int obv7z, .int obv8z])), (obd, .inr (10, [.int obdv0, .int obdv1, .int obdv2z, .ref obd_3, .ref obd_4, .ref obd_5, .ref obd_6, .int obdv7, .int obdv8, .ref obd_9, .ref obd_10, .int obdv11, .ref obd_12, .ref obd_13, .ref obd_14, .ref obd_15, .int obdv16, .ref obd_17, .ref obd_18, .ref obdt])), (obd_3, .inl (k 0, 10, .inl obdg3z)), (obd_4, .inl (k 0, 10, .inl obdg4z)), (obd_5, .inl (k 0, 10, .inl obdg5z)), (obd_6, .inl (k 0, 10, .inl obdg6z)), (ob_4, .inl (k 1, 1000, .inl obg4))] tZ) (va_A [(ob, .inr (9, [.int obv0, .int obv1, .int obv2, .ref obd, .ref ob_4, .int obv5, .int obv6, .int obv7, .int obv8])), (obd, .inr (10, [.int obdv0, .int obdv1, .int obdv2, .ref obd_3, .ref obd_4, .ref obd_5, .ref obd_6, .int obdv7, .int obdv8, .ref obd_9, .ref obd_10, .int obdv11, .ref obd_12, .ref obd_13, .ref obd_14, .ref obd_15, .int obdv16, .ref obd_17, .ref obd_18, .ref obdt])), (obd_3, .inl (k 0, 10, .inl obdg3)), (obd_4, .inl (k 0, 10, .inl obdg4)), (obd_5, .inl (k 0, 10, .inl obdg5)), (obd_6, .inl (k 0, 10, .inl obdg6)), (ob_4, .inl (k 1, 1000, .inl obg4))] sz)) 0 0 (va_A [(ob, .inr (9, [.int obv0, .int obv1, .int obv2, .ref obd, .ref ob_4, .int obv5, .int obv6, .int obv7, .int obv8])), (obd, .inr (10, [.int obdv0, .int obdv1, .int obdv2, .ref obd_3, .ref obd_4, .ref obd_5, .ref obd_6, .int obdv7, .int obdv8, .ref obd_9, .ref obd_10, .int obdv11, .ref obd_12, .ref obd_13, .ref obd_14, .ref obd_15, .int obdv16, .ref obd_17, .ref obd_18, .ref obdt])), (obd_3, .inl (k 0, 10, .inl obdg3)), (obd_4, .inl (k 0, 10, .inl obdg4)), (obd_5, .inl (k 0, 10, .inl obdg5)), (obd_6, .inl (k 0, 10, .inl obdg6)), (ob_4, .inl (k 1, 1000, .inl obg4))] sz) := by
  refine Met.ofW (cc := cX9_readsLane) (maxL := 2) (ret := (some .boolean)) (by decide +kernel) rfl ?_
  intro p e s m args below meth c s₁ B hml hv
  obtain ⟨rfl, hsz, hP, hK, hD0, hN, hStr⟩ := hv
  have hx := B.exec
  have hb := B.bytes
  have hr := B.returns
  have hts : ∀ w ∈ TT, w.before _ s = true := fun w h => atoms_spec (ws := ww yX9_readsLane cX9_readsLane 2 (some .boolean)) B.pre w (List.mem_cons_of_mem _ h)
  have hown : s.vm.findClass RX9 = some m.cls := findClass_of_methodNamed B.named
  have hlocks := B.notSynchronized
  subst hsz
  have hD := hD0.self (sz := s.heap.size)
  generalize hAe : va_A [(ob, .inr (9, [.int obv0, .int obv1, .int obv2, .ref obd, .ref ob_4, .int obv5, .int obv6, .int obv7, .int obv8])), (obd, .inr (10, [.int obdv0, .int obdv1, .int obdv2, .ref obd_3, .ref obd_4, .ref obd_5, .ref obd_6, .int obdv7, .int obdv8, .ref obd_9, .ref obd_10, .int obdv11, .ref obd_12, .ref obd_13, .ref obd_14, .ref obd_15, .int obdv16, .ref obd_17, .ref obd_18, .ref obdt])), (obd_3, .inl (k 0, 10, .inl obdg3)), (obd_4, .inl (k 0, 10, .inl obdg4)), (obd_5, .inl (k 0, 10, .inl obdg5)), (obd_6, .inl (k 0, 10, .inl obdg6)), (ob_4, .inl (k 1, 1000, .inl obg4))] s.heap.size = A at hD hStr ⊢
  have hA : ∀ q : Nat, s.heap.size ≤ q → A q := fun q h => by rw [← hAe]; exact Or.inr h
  have hS : va_S A s.heap s.heap [] := va_S.rf
  have hl := lv_entry ([.ref ob, .int p0]) (n := 2) (Nat.le_of_ble_eq_true rfl)
  rw [lg_entry_eq]
  generalize (lg_sl ([.ref ob, .int p0]) ++ List.replicate (2 - (lg_sl ([.ref ob, .int p0])).length) Slot.unset).toArray = ls at hl ⊢
  have hl : lv_has ls 2 [(0, .ref ob), (1, .int p0)] := hl
  refine lv_aload_n hx hb dX9_readsLane_0 rfl (lv_at hl 0 rfl) ?_
  refine lv_iconst (v := 0) hx hb dX9_readsLane_1 (by decide) ?_
  refine lv_aload_n hx hb dX9_readsLane_2 rfl (lv_at hl 0 rfl) ?_
  refine va_get (D := D) (ci := 9) (v := .ref obd) (C := RX9) (T := TX9) (N := 9) hx hb hts iT_X9 hown hK hP 0 rfl rfl 3 (by decide) (hts _ tw_1_201) (fun _ h9 => h9) rfl dX9_readsLane_3 ?_
  refine va_get (D := D) (ci := 10) (v := .int obdv0) (C := RX10) (T := TX10) (N := 20) hx hb hts iT_X10 hown hK hP 1 rfl rfl 0 (by decide) (hts _ tw_1_71) (fun _ h9 => h9) rfl dX9_readsLane_6 ?_
  refine lv_iconst (v := 1) hx hb dX9_readsLane_9 (by decide) ?_
  refine lv_isub hx hb dX9_readsLane_10 ?_
  refine lv_topi (fun x_1 ex_1 => ?_)
  have zx_1 : x_1.toInt = obdv0.toInt - 1 := by rw [ex_1]; exact z_sub rfl rfl (by omega) (by omega)
  obtain ⟨hPc, hDc, hFc⟩ := sub3 hP hD hS hA (ws' := [(ob, .inr (9, [.int obv0, .int obv1, .int obv2, .ref obd, .ref ob_4, .int obv5, .int obv6, .int obv7, .int obv8])), (ob_4, .inl (k 1, 1000, .inl obg4))]) [0, 6] (by decide +kernel) rfl
  refine va_calli (va_runV (C := RX9) (As := [.int 0, .int x_1]) (rest := []) ⟨hx, hb, hml, hown, hts⟩ (c_X9_takesNumber l D k ob 0 x_1 obv0 obv1 obv2 obd ob_4 obv5 obv6 obv7 obv8 obg4 s.heap.size (show 0 ≤ obv0.toInt ∧ obv0.toInt ≤ 1000 from by omega) (show 0 ≤ obv7.toInt ∧ obv7.toInt ≤ 1000 from by omega)) (cwV 2 hts (gV tw_3_89 tw_3_91 tw_p_7 tw_1_2 tw_3_92) rfl rfl rfl hdV_X9_takesNumber ⟨Nat.le_of_ble_eq_true rfl, Nat.le_of_ble_eq_true rfl⟩) (cz_V hK hPc hDc hN (ci := 9) (q0 := 0) rfl rfl [.int 0, .int x_1]) rfl rfl hl.1 rfl (lv_room (Nat.le_of_ble_eq_true rfl)) dX9_readsLane_11 ⟨Nat.le_of_ble_eq_true rfl, Nat.le_of_ble_eq_true rfl⟩) hS (fun q _ h => hFc q h) hFc (fun r_2 uZ tZ H1 locs ht hvm hw hB hz1 hk1 hS => ?_)
  obtain ⟨o_3, o_4, o_5, o_6, o_7, o_8⟩ := uZ
  obtain ⟨hP1, hK1, hD1⟩ := hB
  rw [ht] at hP1
  obtain ⟨hP, hD⟩ := va_join (wr := [(obd, .inr (10, [.int obdv0, .int obdv1, .int obdv2, .ref obd_3, .ref obd_4, .ref obd_5, .ref obd_6, .int obdv7, .int obdv8, .ref obd_9, .ref obd_10, .int obdv11, .ref obd_12, .ref obd_13, .ref obd_14, .ref obd_15, .int obdv16, .ref obd_17, .ref obd_18, .ref obdt])), (obd_3, .inl (k 0, 10, .inl obdg3)), (obd_4, .inl (k 0, 10, .inl obdg4)), (obd_5, .inl (k 0, 10, .inl obdg5)), (obd_6, .inl (k 0, 10, .inl obdg6))]) (w1 := [(ob, .inr (9, [.int obv0, .int o_3, .int o_4, .ref obd, .ref ob_4, .int o_5, .int o_6, .int o_7, .int o_8])), (ob_4, .inl (k 1, 1000, .inl obg4))]) hP hD [0, 6] [1, 2, 3, 4, 5] rfl rfl (by decide +kernel) (by decide +kernel) hk1 hFc hP1 hD1
  clear hK1 hP1 hD1 hPc hDc hFc
  clear hk1 hz1 ht hvm
  have hP : va_P D vwCl [(obd, .inr (10, [.int obdv0, .int obdv1, .int obdv2, .ref obd_3, .ref obd_4, .ref obd_5, .ref obd_6, .int obdv7, .int obdv8, .ref obd_9, .ref obd_10, .int obdv11, .ref obd_12, .ref obd_13, .ref obd_14, .ref obd_15, .int obdv16, .ref obd_17, .ref obd_18, .ref obdt])), (obd_3, .inl (k 0, 10, .inl obdg3)), (obd_4, .inl (k 0, 10, .inl obdg4)), (obd_5, .inl (k 0, 10, .inl obdg5)), (obd_6, .inl (k 0, 10, .inl obdg6)), (ob, .inr (9, [.int obv0, .int o_3, .int o_4, .ref obd, .ref ob_4, .int o_5, .int o_6, .int o_7, .int o_8])), (ob_4, .inl (k 1, 1000, .inl obg4))] H1 := hP
  have hD : va_D A [(obd, .inr (10, [.int obdv0, .int obdv1, .int obdv2, .ref obd_3, .ref obd_4, .ref obd_5, .ref obd_6, .int obdv7, .int obdv8, .ref obd_9, .ref obd_10, .int obdv11, .ref obd_12, .ref obd_13, .ref obd_14, .ref obd_15, .int obdv16, .ref obd_17, .ref obd_18, .ref obdt])), (obd_3, .inl (k 0, 10, .inl obdg3)), (obd_4, .inl (k 0, 10, .inl obdg4)), (obd_5, .inl (k 0, 10, .inl obdg5)), (obd_6, .inl (k 0, 10, .inl obdg6)), (ob, .inr (9, [.int obv0, .int o_3, .int o_4, .ref obd, .ref ob_4, .int o_5, .int o_6, .int o_7, .int o_8])), (ob_4, .inl (k 1, 1000, .inl obg4))] := hD
  generalize H1 = H at hP hS ⊢
  have hw_9 : (0 ≤ r_2.toInt ∧ r_2.toInt ≤ 1) ∧ (0 ≤ o_5.toInt ∧ o_5.toInt ≤ 4) ∧ (0 ≤ o_6.toInt ∧ o_6.toInt ≤ 1000) ∧ (0 ≤ o_7.toInt ∧ o_7.toInt ≤ 1000) ∧ ((-2147483648) ≤ o_8.toInt ∧ o_8.toInt ≤ 1000000) ∧ (r_2.toInt = 0 ∨ (0 ≤ o_8.toInt ∧ o_8.toInt ≤ x_1.toInt)) := hw
  obtain ⟨hw_10, hw_11, hw_12, hw_13, hw_14, hw_15⟩ := hw_9
  clear hw
  refine lv_if_ne (tgt := 19) hx hb dX9_readsLane_14 (by decide) (fun h_16 => ?_) (fun h_16 => ?_)
  · skip
    have zh_16 : ¬ r_2.toInt = 0 := z_ne h_16
    refine lv_aload_n hx hb dX9_readsLane_19 rfl (lv_at hl 0 rfl) ?_
    refine va_get (D := D) (ci := 9) (v := .ref obd) (C := RX9) (T := TX9) (N := 9) hx hb hts iT_X9 hown hK hP 5 rfl rfl 3 (by decide) (hts _ tw_1_201) (fun _ h9 => h9) rfl dX9_readsLane_20 ?_
    refine va_get (D := D) (ci := 10) (v := .ref obd_3) (C := RX10) (T := TX10) (N := 20) hx hb hts iT_X10 hown hK hP 0 rfl rfl 3 (by decide) (hts _ tw_1_86) (fun _ h9 => h9) rfl dX9_readsLane_23 ?_
    refine lv_iload_n hx hb dX9_readsLane_26 rfl (lv_at hl 1 rfl) ?_
    refine lv_aload_n hx hb dX9_readsLane_27 rfl (lv_at hl 0 rfl) ?_
    refine va_get (D := D) (ci := 9) (v := .int o_8) (C := RX9) (T := TX9) (N := 9) hx hb hts iT_X9 hown hK hP 5 rfl rfl 8 (by decide) (hts _ tw_1_207) (fun _ h9 => h9) rfl dX9_readsLane_28 ?_
    refine va_iast hx hb hK hP hD hS 1 0 rfl rfl (z_in (by omega) (by omega)) dX9_readsLane_31 (fun H locs hP hD hS => ?_)
    obtain ⟨g_17, eg_17⟩ : ∃ z : Nat → Int32, upd obdg3 p0.toNatClampNeg o_8 = z := ⟨_, rfl⟩
    have hP : va_P D vwCl [(obd, .inr (10, [.int obdv0, .int obdv1, .int obdv2, .ref obd_3, .ref obd_4, .ref obd_5, .ref obd_6, .int obdv7, .int obdv8, .ref obd_9, .ref obd_10, .int obdv11, .ref obd_12, .ref obd_13, .ref obd_14, .ref obd_15, .int obdv16, .ref obd_17, .ref obd_18, .ref obdt])), (obd_3, .inl (k 0, 10, .inl (upd obdg3 p0.toNatClampNeg o_8))), (obd_4, .inl (k 0, 10, .inl obdg4)), (obd_5, .inl (k 0, 10, .inl obdg5)), (obd_6, .inl (k 0, 10, .inl obdg6)), (ob, .inr (9, [.int obv0, .int o_3, .int o_4, .ref obd, .ref ob_4, .int o_5, .int o_6, .int o_7, .int o_8])), (ob_4, .inl (k 1, 1000, .inl obg4))] H := hP
    have hD : va_D A [(obd, .inr (10, [.int obdv0, .int obdv1, .int obdv2, .ref obd_3, .ref obd_4, .ref obd_5, .ref obd_6, .int obdv7, .int obdv8, .ref obd_9, .ref obd_10, .int obdv11, .ref obd_12, .ref obd_13, .ref obd_14, .ref obd_15, .int obdv16, .ref obd_17, .ref obd_18, .ref obdt])), (obd_3, .inl (k 0, 10, .inl (upd obdg3 p0.toNatClampNeg o_8))), (obd_4, .inl (k 0, 10, .inl obdg4)), (obd_5, .inl (k 0, 10, .inl obdg5)), (obd_6, .inl (k 0, 10, .inl obdg6)), (ob, .inr (9, [.int obv0, .int o_3, .int o_4, .ref obd, .ref ob_4, .int o_5, .int o_6, .int o_7, .int o_8])), (ob_4, .inl (k 1, 1000, .inl obg4))] := hD
    rw [eg_17] at hP hD
    have hp_18 : PR 10 1 0 0 7 g_17 := by rw [← eg_17]; exact PR.put hp_obdg3_0 ⟨by omega, by omega⟩
    refine lv_aload_n hx hb dX9_readsLane_32 rfl (lv_at hl 0 rfl) ?_
    refine va_ldcS (q := adK 3) hx hb hown (hStr.2.1 (3, 123, "to") (List.mem_of_getElem? (i := 3) rfl)) dX9_readsLane_33 ?_
    obtain ⟨hPc, hDc, hFc⟩ := sub3 hP hD hS hA (ws' := [(ob, .inr (9, [.int obv0, .int o_3, .int o_4, .ref obd, .ref ob_4, .int o_5, .int o_6, .int o_7, .int o_8])), (ob_4, .inl (k 1, 1000, .inl obg4))]) [5, 6] (by decide +kernel) rfl
    refine va_calli (va_runV (C := RX9) (As := [.ref (adK 3)]) (rest := []) ⟨hx, hb, hml, hown, hts⟩ (c_X9_takesWord l D k adK adV vF 3 ob obv0 o_3 o_4 obd ob_4 o_5 o_6 o_7 o_8 obg4 H.size (by decide) (show 0 ≤ obv0.toInt ∧ obv0.toInt ≤ 1000 from by omega) (show 0 ≤ o_7.toInt ∧ o_7.toInt ≤ 1000 from by omega)) (cwV 1 hts (gV tw_3_81 tw_3_83 tw_p_5 tw_1_2 tw_3_84) rfl rfl rfl hdV_X9_takesWord ⟨Nat.le_of_ble_eq_true rfl, Nat.le_of_ble_eq_true rfl⟩) (cz_V1 hK hPc hDc hN hStr hS hFc (ci := 9) (q0 := 0) rfl rfl [.ref (adK 3)]) rfl rfl hl.1 rfl (lv_room (Nat.le_of_ble_eq_true rfl)) dX9_readsLane_35 ⟨Nat.le_of_ble_eq_true rfl, Nat.le_of_ble_eq_true rfl⟩) hS (fun q _ h => hFc q h) hFc (fun r_19 uZ tZ H1 locs ht hvm hw hB hz1 hk1 hS => ?_)
    obtain ⟨o_20, o_21, o_22, o_23, o_24, o_25⟩ := uZ
    obtain ⟨hP1, hK1, hD1⟩ := hB
    rw [ht] at hP1
    obtain ⟨hP, hD⟩ := va_join (wr := [(obd, .inr (10, [.int obdv0, .int obdv1, .int obdv2, .ref obd_3, .ref obd_4, .ref obd_5, .ref obd_6, .int obdv7, .int obdv8, .ref obd_9, .ref obd_10, .int obdv11, .ref obd_12, .ref obd_13, .ref obd_14, .ref obd_15, .int obdv16, .ref obd_17, .ref obd_18, .ref obdt])), (obd_3, .inl (k 0, 10, .inl g_17)), (obd_4, .inl (k 0, 10, .inl obdg4)), (obd_5, .inl (k 0, 10, .inl obdg5)), (obd_6, .inl (k 0, 10, .inl obdg6))]) (w1 := [(ob, .inr (9, [.int obv0, .int o_24, .int o_25, .ref obd, .ref ob_4, .int o_20, .int o_21, .int o_22, .int o_23])), (ob_4, .inl (k 1, 1000, .inl obg4))]) hP hD [5, 6] [0, 1, 2, 3, 4] rfl rfl (by decide +kernel) (by decide +kernel) hk1 hFc hP1 hD1
    clear hK1 hP1 hD1 hPc hDc hFc
    clear hk1 hz1 ht hvm
    have hP : va_P D vwCl [(obd, .inr (10, [.int obdv0, .int obdv1, .int obdv2, .ref obd_3, .ref obd_4, .ref obd_5, .ref obd_6, .int obdv7, .int obdv8, .ref obd_9, .ref obd_10, .int obdv11, .ref obd_12, .ref obd_13, .ref obd_14, .ref obd_15, .int obdv16, .ref obd_17, .ref obd_18, .ref obdt])), (obd_3, .inl (k 0, 10, .inl g_17)), (obd_4, .inl (k 0, 10, .inl obdg4)), (obd_5, .inl (k 0, 10, .inl obdg5)), (obd_6, .inl (k 0, 10, .inl obdg6)), (ob, .inr (9, [.int obv0, .int o_24, .int o_25, .ref obd, .ref ob_4, .int o_20, .int o_21, .int o_22, .int o_23])), (ob_4, .inl (k 1, 1000, .inl obg4))] H1 := hP
    have hD : va_D A [(obd, .inr (10, [.int obdv0, .int obdv1, .int obdv2, .ref obd_3, .ref obd_4, .ref obd_5, .ref obd_6, .int obdv7, .int obdv8, .ref obd_9, .ref obd_10, .int obdv11, .ref obd_12, .ref obd_13, .ref obd_14, .ref obd_15, .int obdv16, .ref obd_17, .ref obd_18, .ref obdt])), (obd_3, .inl (k 0, 10, .inl g_17)), (obd_4, .inl (k 0, 10, .inl obdg4)), (obd_5, .inl (k 0, 10, .inl obdg5)), (obd_6, .inl (k 0, 10, .inl obdg6)), (ob, .inr (9, [.int obv0, .int o_24, .int o_25, .ref obd, .ref ob_4, .int o_20, .int o_21, .int o_22, .int o_23])), (ob_4, .inl (k 1, 1000, .inl obg4))] := hD
    generalize H1 = H at hP hS ⊢
    have hw_26 : (0 ≤ r_19.toInt ∧ r_19.toInt ≤ 1) ∧ (0 ≤ o_20.toInt ∧ o_20.toInt ≤ 4) ∧ (0 ≤ o_21.toInt ∧ o_21.toInt ≤ 1000) ∧ (0 ≤ o_22.toInt ∧ o_22.toInt ≤ 1000) ∧ ((-2147483648) ≤ o_23.toInt ∧ o_23.toInt ≤ 1000000) := hw
    obtain ⟨hw_27, hw_28, hw_29, hw_30, hw_31⟩ := hw_26
    clear hw
    refine lv_if_eq (tgt := 58) hx hb dX9_readsLane_38 (by decide) (fun h_32 => ?_) (fun h_32 => ?_)
    · skip
      have zh_32 : r_19.toInt = 0 := z_eq h_32
      refine lv_iconst (v := 0) hx hb dX9_readsLane_58 (by decide) ?_
      obtain ⟨hP9, hD9⟩ := sub2 hP hD (ws' := [(ob, .inr (9, [.int obv0, .int o_24, .int o_25, .ref obd, .ref ob_4, .int o_20, .int o_21, .int o_22, .int o_23])), (obd, .inr (10, [.int obdv0, .int obdv1, .int obdv2, .ref obd_3, .ref obd_4, .ref obd_5, .ref obd_6, .int obdv7, .int obdv8, .ref obd_9, .ref obd_10, .int obdv11, .ref obd_12, .ref obd_13, .ref obd_14, .ref obd_15, .int obdv16, .ref obd_17, .ref obd_18, .ref obdt])), (obd_3, .inl (k 0, 10, .inl g_17)), (obd_4, .inl (k 0, 10, .inl obdg4)), (obd_5, .inl (k 0, 10, .inl obdg5)), (obd_6, .inl (k 0, 10, .inl obdg6)), (ob_4, .inl (k 1, 1000, .inl obg4))]) [5, 0, 1, 2, 3, 4, 6] (by decide +kernel) rfl
      exact W.zret (v := 0) hx hb hr (by decide) (fun tZ ht hW => ⟨⟨0, (o_24, o_25, o_20, o_21, o_22, o_23, g_17, obdg4, obdv2, obdg5, obdg6), rfl, ⟨(show 0 ≤ 0 ∧ 0 ≤ 1 from by omega), (show 0 ≤ o_20.toInt ∧ o_20.toInt ≤ 4 from by omega), (show 0 ≤ o_21.toInt ∧ o_21.toInt ≤ 1000 from by omega), (show 0 ≤ o_22.toInt ∧ o_22.toInt ≤ 1000 from by omega), (show (-2147483648) ≤ o_23.toInt ∧ o_23.toInt ≤ 1000000 from by have := z_rng o_23; omega), hp_18, hp_obdg4_0, (show 0 ≤ obdv2.toInt ∧ obdv2.toInt ≤ 10 from by omega), hp_obdg5_0, hp_obdg6_0⟩, by rw [ht]; exact hP9, va_K.moved hW.alike hK, hD9⟩, hS.F ht⟩) hS.2.2 dX9_readsLane_59
    · skip
      have zh_32 : ¬ r_19.toInt = 0 := z_ne h_32
      refine lv_aload_n hx hb dX9_readsLane_41 rfl (lv_at hl 0 rfl) ?_
      refine lv_iconst (v := 0) hx hb dX9_readsLane_42 (by decide) ?_
      refine lv_aload_n hx hb dX9_readsLane_43 rfl (lv_at hl 0 rfl) ?_
      refine va_get (D := D) (ci := 9) (v := .ref obd) (C := RX9) (T := TX9) (N := 9) hx hb hts iT_X9 hown hK hP 5 rfl rfl 3 (by decide) (hts _ tw_1_201) (fun _ h9 => h9) rfl dX9_readsLane_44 ?_
      refine va_get (D := D) (ci := 10) (v := .int obdv0) (C := RX10) (T := TX10) (N := 20) hx hb hts iT_X10 hown hK hP 0 rfl rfl 0 (by decide) (hts _ tw_1_71) (fun _ h9 => h9) rfl dX9_readsLane_47 ?_
      refine lv_iconst (v := 1) hx hb dX9_readsLane_50 (by decide) ?_
      refine lv_isub hx hb dX9_readsLane_51 ?_
      refine lv_topi (fun x_33 ex_33 => ?_)
      obtain rfl : x_1 = x_33 := ex_1.trans ex_33.symm
      obtain ⟨hPc, hDc, hFc⟩ := sub3 hP hD hS hA (ws' := [(ob, .inr (9, [.int obv0, .int o_24, .int o_25, .ref obd, .ref ob_4, .int o_20, .int o_21, .int o_22, .int o_23])), (ob_4, .inl (k 1, 1000, .inl obg4))]) [5, 6] (by decide +kernel) rfl
      refine va_calli (va_runV (C := RX9) (As := [.int 0, .int x_1]) (rest := []) ⟨hx, hb, hml, hown, hts⟩ (c_X9_takesNumber l D k ob 0 x_1 obv0 o_24 o_25 obd ob_4 o_20 o_21 o_22 o_23 obg4 H.size (show 0 ≤ obv0.toInt ∧ obv0.toInt ≤ 1000 from by omega) (show 0 ≤ o_22.toInt ∧ o_22.toInt ≤ 1000 from by omega)) (cwV 2 hts (gV tw_3_89 tw_3_91 tw_p_7 tw_1_2 tw_3_92) rfl rfl rfl hdV_X9_takesNumber ⟨Nat.le_of_ble_eq_true rfl, Nat.le_of_ble_eq_true rfl⟩) (cz_V hK hPc hDc hN (ci := 9) (q0 := 0) rfl rfl [.int 0, .int x_1]) rfl rfl hl.1 rfl (lv_room (Nat.le_of_ble_eq_true rfl)) dX9_readsLane_52 ⟨Nat.le_of_ble_eq_true rfl, Nat.le_of_ble_eq_true rfl⟩) hS (fun q _ h => hFc q h) hFc (fun r_34 uZ tZ H1 locs ht hvm hw hB hz1 hk1 hS => ?_)
      obtain ⟨o_35, o_36, o_37, o_38, o_39, o_40⟩ := uZ
      obtain ⟨hP1, hK1, hD1⟩ := hB
      rw [ht] at hP1
      obtain ⟨hP, hD⟩ := va_join (wr := [(obd, .inr (10, [.int obdv0, .int obdv1, .int obdv2, .ref obd_3, .ref obd_4, .ref obd_5, .ref obd_6, .int obdv7, .int obdv8, .ref obd_9, .ref obd_10, .int obdv11, .ref obd_12, .ref obd_13, .ref obd_14, .ref obd_15, .int obdv16, .ref obd_17, .ref obd_18, .ref obdt])), (obd_3, .inl (k 0, 10, .inl g_17)), (obd_4, .inl (k 0, 10, .inl obdg4)), (obd_5, .inl (k 0, 10, .inl obdg5)), (obd_6, .inl (k 0, 10, .inl obdg6))]) (w1 := [(ob, .inr (9, [.int obv0, .int o_35, .int o_36, .ref obd, .ref ob_4, .int o_37, .int o_38, .int o_39, .int o_40])), (ob_4, .inl (k 1, 1000, .inl obg4))]) hP hD [5, 6] [0, 1, 2, 3, 4] rfl rfl (by decide +kernel) (by decide +kernel) hk1 hFc hP1 hD1
      clear hK1 hP1 hD1 hPc hDc hFc
      clear hk1 hz1 ht hvm
      have hP : va_P D vwCl [(obd, .inr (10, [.int obdv0, .int obdv1, .int obdv2, .ref obd_3, .ref obd_4, .ref obd_5, .ref obd_6, .int obdv7, .int obdv8, .ref obd_9, .ref obd_10, .int obdv11, .ref obd_12, .ref obd_13, .ref obd_14, .ref obd_15, .int obdv16, .ref obd_17, .ref obd_18, .ref obdt])), (obd_3, .inl (k 0, 10, .inl g_17)), (obd_4, .inl (k 0, 10, .inl obdg4)), (obd_5, .inl (k 0, 10, .inl obdg5)), (obd_6, .inl (k 0, 10, .inl obdg6)), (ob, .inr (9, [.int obv0, .int o_35, .int o_36, .ref obd, .ref ob_4, .int o_37, .int o_38, .int o_39, .int o_40])), (ob_4, .inl (k 1, 1000, .inl obg4))] H1 := hP
      have hD : va_D A [(obd, .inr (10, [.int obdv0, .int obdv1, .int obdv2, .ref obd_3, .ref obd_4, .ref obd_5, .ref obd_6, .int obdv7, .int obdv8, .ref obd_9, .ref obd_10, .int obdv11, .ref obd_12, .ref obd_13, .ref obd_14, .ref obd_15, .int obdv16, .ref obd_17, .ref obd_18, .ref obdt])), (obd_3, .inl (k 0, 10, .inl g_17)), (obd_4, .inl (k 0, 10, .inl obdg4)), (obd_5, .inl (k 0, 10, .inl obdg5)), (obd_6, .inl (k 0, 10, .inl obdg6)), (ob, .inr (9, [.int obv0, .int o_35, .int o_36, .ref obd, .ref ob_4, .int o_37, .int o_38, .int o_39, .int o_40])), (ob_4, .inl (k 1, 1000, .inl obg4))] := hD
      generalize H1 = H at hP hS ⊢
      have hw_41 : (0 ≤ r_34.toInt ∧ r_34.toInt ≤ 1) ∧ (0 ≤ o_37.toInt ∧ o_37.toInt ≤ 4) ∧ (0 ≤ o_38.toInt ∧ o_38.toInt ≤ 1000) ∧ (0 ≤ o_39.toInt ∧ o_39.toInt ≤ 1000) ∧ ((-2147483648) ≤ o_40.toInt ∧ o_40.toInt ≤ 1000000) ∧ (r_34.toInt = 0 ∨ (0 ≤ o_40.toInt ∧ o_40.toInt ≤ x_1.toInt)) := hw
      obtain ⟨hw_42, hw_43, hw_44, hw_45, hw_46, hw_47⟩ := hw_41
      clear hw
      refine lv_if_ne (tgt := 60) hx hb dX9_readsLane_55 (by decide) (fun h_48 => ?_) (fun h_48 => ?_)
      · skip
        have zh_48 : ¬ r_34.toInt = 0 := z_ne h_48
        refine lv_aload_n hx hb dX9_readsLane_60 rfl (lv_at hl 0 rfl) ?_
        refine va_get (D := D) (ci := 9) (v := .int o_40) (C := RX9) (T := TX9) (N := 9) hx hb hts iT_X9 hown hK hP 5 rfl rfl 8 (by decide) (hts _ tw_1_207) (fun _ h9 => h9) rfl dX9_readsLane_61 ?_
        refine lv_aload_n hx hb dX9_readsLane_64 rfl (lv_at hl 0 rfl) ?_
        refine va_get (D := D) (ci := 9) (v := .ref obd) (C := RX9) (T := TX9) (N := 9) hx hb hts iT_X9 hown hK hP 5 rfl rfl 3 (by decide) (hts _ tw_1_201) (fun _ h9 => h9) rfl dX9_readsLane_65 ?_
        refine va_get (D := D) (ci := 10) (v := .ref obd_3) (C := RX10) (T := TX10) (N := 20) hx hb hts iT_X10 hown hK hP 0 rfl rfl 3 (by decide) (hts _ tw_1_86) (fun _ h9 => h9) rfl dX9_readsLane_68 ?_
        refine lv_iload_n hx hb dX9_readsLane_71 rfl (lv_at hl 1 rfl) ?_
        refine va_iald hx hb hK hP 1 0 rfl rfl (z_in (by omega) (by omega)) dX9_readsLane_72 ?_
        refine lv_topi (fun x_49 ex_49 => ?_)
        obtain rfl : o_8 = x_49 := ((ex_49.trans (by rw [← eg_17]; exact pk_us))).symm
        refine lv_icmp_ne (tgt := 82) hx hb dX9_readsLane_73 (by decide) (fun h_50 => ?_) (fun h_50 => ?_)
        · skip
          have zh_50 : ¬ o_40.toInt = o_8.toInt := z_ne h_50
          refine lv_aload_n hx hb dX9_readsLane_82 rfl (lv_at hl 0 rfl) ?_
          refine va_get (D := D) (ci := 9) (v := .ref obd) (C := RX9) (T := TX9) (N := 9) hx hb hts iT_X9 hown hK hP 5 rfl rfl 3 (by decide) (hts _ tw_1_201) (fun _ h9 => h9) rfl dX9_readsLane_83 ?_
          refine va_get (D := D) (ci := 10) (v := .ref obd_4) (C := RX10) (T := TX10) (N := 20) hx hb hts iT_X10 hown hK hP 0 rfl rfl 4 (by decide) (hts _ tw_1_92) (fun _ h9 => h9) rfl dX9_readsLane_86 ?_
          refine lv_iload_n hx hb dX9_readsLane_89 rfl (lv_at hl 1 rfl) ?_
          refine lv_aload_n hx hb dX9_readsLane_90 rfl (lv_at hl 0 rfl) ?_
          refine va_get (D := D) (ci := 9) (v := .int o_40) (C := RX9) (T := TX9) (N := 9) hx hb hts iT_X9 hown hK hP 5 rfl rfl 8 (by decide) (hts _ tw_1_207) (fun _ h9 => h9) rfl dX9_readsLane_91 ?_
          refine va_iast hx hb hK hP hD hS 2 0 rfl rfl (z_in (by omega) (by omega)) dX9_readsLane_94 (fun H locs hP hD hS => ?_)
          obtain ⟨g_51, eg_51⟩ : ∃ z : Nat → Int32, upd obdg4 p0.toNatClampNeg o_40 = z := ⟨_, rfl⟩
          have hP : va_P D vwCl [(obd, .inr (10, [.int obdv0, .int obdv1, .int obdv2, .ref obd_3, .ref obd_4, .ref obd_5, .ref obd_6, .int obdv7, .int obdv8, .ref obd_9, .ref obd_10, .int obdv11, .ref obd_12, .ref obd_13, .ref obd_14, .ref obd_15, .int obdv16, .ref obd_17, .ref obd_18, .ref obdt])), (obd_3, .inl (k 0, 10, .inl g_17)), (obd_4, .inl (k 0, 10, .inl (upd obdg4 p0.toNatClampNeg o_40))), (obd_5, .inl (k 0, 10, .inl obdg5)), (obd_6, .inl (k 0, 10, .inl obdg6)), (ob, .inr (9, [.int obv0, .int o_35, .int o_36, .ref obd, .ref ob_4, .int o_37, .int o_38, .int o_39, .int o_40])), (ob_4, .inl (k 1, 1000, .inl obg4))] H := hP
          have hD : va_D A [(obd, .inr (10, [.int obdv0, .int obdv1, .int obdv2, .ref obd_3, .ref obd_4, .ref obd_5, .ref obd_6, .int obdv7, .int obdv8, .ref obd_9, .ref obd_10, .int obdv11, .ref obd_12, .ref obd_13, .ref obd_14, .ref obd_15, .int obdv16, .ref obd_17, .ref obd_18, .ref obdt])), (obd_3, .inl (k 0, 10, .inl g_17)), (obd_4, .inl (k 0, 10, .inl (upd obdg4 p0.toNatClampNeg o_40))), (obd_5, .inl (k 0, 10, .inl obdg5)), (obd_6, .inl (k 0, 10, .inl obdg6)), (ob, .inr (9, [.int obv0, .int o_35, .int o_36, .ref obd, .ref ob_4, .int o_37, .int o_38, .int o_39, .int o_40])), (ob_4, .inl (k 1, 1000, .inl obg4))] := hD
          rw [eg_51] at hP hD
          have hp_52 : PR 10 1 0 0 7 g_51 := by rw [← eg_51]; exact PR.put hp_obdg4_0 ⟨by omega, by omega⟩
          refine lv_aload_n hx hb dX9_readsLane_95 rfl (lv_at hl 0 rfl) ?_
          refine va_ldcS (q := adK 4) hx hb hown (hStr.2.1 (4, 128, "takes") (List.mem_of_getElem? (i := 4) rfl)) dX9_readsLane_96 ?_
          obtain ⟨hPc, hDc, hFc⟩ := sub3 hP hD hS hA (ws' := [(ob, .inr (9, [.int obv0, .int o_35, .int o_36, .ref obd, .ref ob_4, .int o_37, .int o_38, .int o_39, .int o_40])), (ob_4, .inl (k 1, 1000, .inl obg4))]) [5, 6] (by decide +kernel) rfl
          refine va_calli (va_runV (C := RX9) (As := [.ref (adK 4)]) (rest := []) ⟨hx, hb, hml, hown, hts⟩ (c_X9_takesWord l D k adK adV vF 4 ob obv0 o_35 o_36 obd ob_4 o_37 o_38 o_39 o_40 obg4 H.size (by decide) (show 0 ≤ obv0.toInt ∧ obv0.toInt ≤ 1000 from by omega) (show 0 ≤ o_39.toInt ∧ o_39.toInt ≤ 1000 from by omega)) (cwV 1 hts (gV tw_3_81 tw_3_83 tw_p_5 tw_1_2 tw_3_84) rfl rfl rfl hdV_X9_takesWord ⟨Nat.le_of_ble_eq_true rfl, Nat.le_of_ble_eq_true rfl⟩) (cz_V1 hK hPc hDc hN hStr hS hFc (ci := 9) (q0 := 0) rfl rfl [.ref (adK 4)]) rfl rfl hl.1 rfl (lv_room (Nat.le_of_ble_eq_true rfl)) dX9_readsLane_98 ⟨Nat.le_of_ble_eq_true rfl, Nat.le_of_ble_eq_true rfl⟩) hS (fun q _ h => hFc q h) hFc (fun r_53 uZ tZ H1 locs ht hvm hw hB hz1 hk1 hS => ?_)
          obtain ⟨o_54, o_55, o_56, o_57, o_58, o_59⟩ := uZ
          obtain ⟨hP1, hK1, hD1⟩ := hB
          rw [ht] at hP1
          obtain ⟨hP, hD⟩ := va_join (wr := [(obd, .inr (10, [.int obdv0, .int obdv1, .int obdv2, .ref obd_3, .ref obd_4, .ref obd_5, .ref obd_6, .int obdv7, .int obdv8, .ref obd_9, .ref obd_10, .int obdv11, .ref obd_12, .ref obd_13, .ref obd_14, .ref obd_15, .int obdv16, .ref obd_17, .ref obd_18, .ref obdt])), (obd_3, .inl (k 0, 10, .inl g_17)), (obd_4, .inl (k 0, 10, .inl g_51)), (obd_5, .inl (k 0, 10, .inl obdg5)), (obd_6, .inl (k 0, 10, .inl obdg6))]) (w1 := [(ob, .inr (9, [.int obv0, .int o_58, .int o_59, .ref obd, .ref ob_4, .int o_54, .int o_55, .int o_56, .int o_57])), (ob_4, .inl (k 1, 1000, .inl obg4))]) hP hD [5, 6] [0, 1, 2, 3, 4] rfl rfl (by decide +kernel) (by decide +kernel) hk1 hFc hP1 hD1
          clear hK1 hP1 hD1 hPc hDc hFc
          clear hk1 hz1 ht hvm
          have hP : va_P D vwCl [(obd, .inr (10, [.int obdv0, .int obdv1, .int obdv2, .ref obd_3, .ref obd_4, .ref obd_5, .ref obd_6, .int obdv7, .int obdv8, .ref obd_9, .ref obd_10, .int obdv11, .ref obd_12, .ref obd_13, .ref obd_14, .ref obd_15, .int obdv16, .ref obd_17, .ref obd_18, .ref obdt])), (obd_3, .inl (k 0, 10, .inl g_17)), (obd_4, .inl (k 0, 10, .inl g_51)), (obd_5, .inl (k 0, 10, .inl obdg5)), (obd_6, .inl (k 0, 10, .inl obdg6)), (ob, .inr (9, [.int obv0, .int o_58, .int o_59, .ref obd, .ref ob_4, .int o_54, .int o_55, .int o_56, .int o_57])), (ob_4, .inl (k 1, 1000, .inl obg4))] H1 := hP
          have hD : va_D A [(obd, .inr (10, [.int obdv0, .int obdv1, .int obdv2, .ref obd_3, .ref obd_4, .ref obd_5, .ref obd_6, .int obdv7, .int obdv8, .ref obd_9, .ref obd_10, .int obdv11, .ref obd_12, .ref obd_13, .ref obd_14, .ref obd_15, .int obdv16, .ref obd_17, .ref obd_18, .ref obdt])), (obd_3, .inl (k 0, 10, .inl g_17)), (obd_4, .inl (k 0, 10, .inl g_51)), (obd_5, .inl (k 0, 10, .inl obdg5)), (obd_6, .inl (k 0, 10, .inl obdg6)), (ob, .inr (9, [.int obv0, .int o_58, .int o_59, .ref obd, .ref ob_4, .int o_54, .int o_55, .int o_56, .int o_57])), (ob_4, .inl (k 1, 1000, .inl obg4))] := hD
          generalize H1 = H at hP hS ⊢
          have hw_60 : (0 ≤ r_53.toInt ∧ r_53.toInt ≤ 1) ∧ (0 ≤ o_54.toInt ∧ o_54.toInt ≤ 4) ∧ (0 ≤ o_55.toInt ∧ o_55.toInt ≤ 1000) ∧ (0 ≤ o_56.toInt ∧ o_56.toInt ≤ 1000) ∧ ((-2147483648) ≤ o_57.toInt ∧ o_57.toInt ≤ 1000000) := hw
          obtain ⟨hw_61, hw_62, hw_63, hw_64, hw_65⟩ := hw_60
          clear hw
          refine lv_if_eq (tgt := 114) hx hb dX9_readsLane_101 (by decide) (fun h_66 => ?_) (fun h_66 => ?_)
          · skip
            have zh_66 : r_53.toInt = 0 := z_eq h_66
            refine lv_iconst (v := 0) hx hb dX9_readsLane_114 (by decide) ?_
            obtain ⟨hP9, hD9⟩ := sub2 hP hD (ws' := [(ob, .inr (9, [.int obv0, .int o_58, .int o_59, .ref obd, .ref ob_4, .int o_54, .int o_55, .int o_56, .int o_57])), (obd, .inr (10, [.int obdv0, .int obdv1, .int obdv2, .ref obd_3, .ref obd_4, .ref obd_5, .ref obd_6, .int obdv7, .int obdv8, .ref obd_9, .ref obd_10, .int obdv11, .ref obd_12, .ref obd_13, .ref obd_14, .ref obd_15, .int obdv16, .ref obd_17, .ref obd_18, .ref obdt])), (obd_3, .inl (k 0, 10, .inl g_17)), (obd_4, .inl (k 0, 10, .inl g_51)), (obd_5, .inl (k 0, 10, .inl obdg5)), (obd_6, .inl (k 0, 10, .inl obdg6)), (ob_4, .inl (k 1, 1000, .inl obg4))]) [5, 0, 1, 2, 3, 4, 6] (by decide +kernel) rfl
            exact W.zret (v := 0) hx hb hr (by decide) (fun tZ ht hW => ⟨⟨0, (o_58, o_59, o_54, o_55, o_56, o_57, g_17, g_51, obdv2, obdg5, obdg6), rfl, ⟨(show 0 ≤ 0 ∧ 0 ≤ 1 from by omega), (show 0 ≤ o_54.toInt ∧ o_54.toInt ≤ 4 from by omega), (show 0 ≤ o_55.toInt ∧ o_55.toInt ≤ 1000 from by omega), (show 0 ≤ o_56.toInt ∧ o_56.toInt ≤ 1000 from by omega), (show (-2147483648) ≤ o_57.toInt ∧ o_57.toInt ≤ 1000000 from by have := z_rng o_57; omega), hp_18, hp_52, (show 0 ≤ obdv2.toInt ∧ obdv2.toInt ≤ 10 from by omega), hp_obdg5_0, hp_obdg6_0⟩, by rw [ht]; exact hP9, va_K.moved hW.alike hK, hD9⟩, hS.F ht⟩) hS.2.2 dX9_readsLane_115
          · skip
            have zh_66 : ¬ r_53.toInt = 0 := z_ne h_66
            refine lv_aload_n hx hb dX9_readsLane_104 rfl (lv_at hl 0 rfl) ?_
            refine lv_iconst (v := 1) hx hb dX9_readsLane_105 (by decide) ?_
            refine lv_bipush (v := 60) hx hb dX9_readsLane_106 (by decide) ?_
            obtain ⟨hPc, hDc, hFc⟩ := sub3 hP hD hS hA (ws' := [(ob, .inr (9, [.int obv0, .int o_58, .int o_59, .ref obd, .ref ob_4, .int o_54, .int o_55, .int o_56, .int o_57])), (ob_4, .inl (k 1, 1000, .inl obg4))]) [5, 6] (by decide +kernel) rfl
            refine va_calli (va_runV (C := RX9) (As := [.int 1, .int 60]) (rest := []) ⟨hx, hb, hml, hown, hts⟩ (c_X9_takesNumber l D k ob 1 60 obv0 o_58 o_59 obd ob_4 o_54 o_55 o_56 o_57 obg4 H.size (show 0 ≤ obv0.toInt ∧ obv0.toInt ≤ 1000 from by omega) (show 0 ≤ o_56.toInt ∧ o_56.toInt ≤ 1000 from by omega)) (cwV 2 hts (gV tw_3_89 tw_3_91 tw_p_7 tw_1_2 tw_3_92) rfl rfl rfl hdV_X9_takesNumber ⟨Nat.le_of_ble_eq_true rfl, Nat.le_of_ble_eq_true rfl⟩) (cz_V hK hPc hDc hN (ci := 9) (q0 := 0) rfl rfl [.int 1, .int 60]) rfl rfl hl.1 rfl (lv_room (Nat.le_of_ble_eq_true rfl)) dX9_readsLane_108 ⟨Nat.le_of_ble_eq_true rfl, Nat.le_of_ble_eq_true rfl⟩) hS (fun q _ h => hFc q h) hFc (fun r_67 uZ tZ H1 locs ht hvm hw hB hz1 hk1 hS => ?_)
            obtain ⟨o_68, o_69, o_70, o_71, o_72, o_73⟩ := uZ
            obtain ⟨hP1, hK1, hD1⟩ := hB
            rw [ht] at hP1
            obtain ⟨hP, hD⟩ := va_join (wr := [(obd, .inr (10, [.int obdv0, .int obdv1, .int obdv2, .ref obd_3, .ref obd_4, .ref obd_5, .ref obd_6, .int obdv7, .int obdv8, .ref obd_9, .ref obd_10, .int obdv11, .ref obd_12, .ref obd_13, .ref obd_14, .ref obd_15, .int obdv16, .ref obd_17, .ref obd_18, .ref obdt])), (obd_3, .inl (k 0, 10, .inl g_17)), (obd_4, .inl (k 0, 10, .inl g_51)), (obd_5, .inl (k 0, 10, .inl obdg5)), (obd_6, .inl (k 0, 10, .inl obdg6))]) (w1 := [(ob, .inr (9, [.int obv0, .int o_68, .int o_69, .ref obd, .ref ob_4, .int o_70, .int o_71, .int o_72, .int o_73])), (ob_4, .inl (k 1, 1000, .inl obg4))]) hP hD [5, 6] [0, 1, 2, 3, 4] rfl rfl (by decide +kernel) (by decide +kernel) hk1 hFc hP1 hD1
            clear hK1 hP1 hD1 hPc hDc hFc
            clear hk1 hz1 ht hvm
            have hP : va_P D vwCl [(obd, .inr (10, [.int obdv0, .int obdv1, .int obdv2, .ref obd_3, .ref obd_4, .ref obd_5, .ref obd_6, .int obdv7, .int obdv8, .ref obd_9, .ref obd_10, .int obdv11, .ref obd_12, .ref obd_13, .ref obd_14, .ref obd_15, .int obdv16, .ref obd_17, .ref obd_18, .ref obdt])), (obd_3, .inl (k 0, 10, .inl g_17)), (obd_4, .inl (k 0, 10, .inl g_51)), (obd_5, .inl (k 0, 10, .inl obdg5)), (obd_6, .inl (k 0, 10, .inl obdg6)), (ob, .inr (9, [.int obv0, .int o_68, .int o_69, .ref obd, .ref ob_4, .int o_70, .int o_71, .int o_72, .int o_73])), (ob_4, .inl (k 1, 1000, .inl obg4))] H1 := hP
            have hD : va_D A [(obd, .inr (10, [.int obdv0, .int obdv1, .int obdv2, .ref obd_3, .ref obd_4, .ref obd_5, .ref obd_6, .int obdv7, .int obdv8, .ref obd_9, .ref obd_10, .int obdv11, .ref obd_12, .ref obd_13, .ref obd_14, .ref obd_15, .int obdv16, .ref obd_17, .ref obd_18, .ref obdt])), (obd_3, .inl (k 0, 10, .inl g_17)), (obd_4, .inl (k 0, 10, .inl g_51)), (obd_5, .inl (k 0, 10, .inl obdg5)), (obd_6, .inl (k 0, 10, .inl obdg6)), (ob, .inr (9, [.int obv0, .int o_68, .int o_69, .ref obd, .ref ob_4, .int o_70, .int o_71, .int o_72, .int o_73])), (ob_4, .inl (k 1, 1000, .inl obg4))] := hD
            generalize H1 = H at hP hS ⊢
            have hw_74 : (0 ≤ r_67.toInt ∧ r_67.toInt ≤ 1) ∧ (0 ≤ o_70.toInt ∧ o_70.toInt ≤ 4) ∧ (0 ≤ o_71.toInt ∧ o_71.toInt ≤ 1000) ∧ (0 ≤ o_72.toInt ∧ o_72.toInt ≤ 1000) ∧ ((-2147483648) ≤ o_73.toInt ∧ o_73.toInt ≤ 1000000) ∧ (r_67.toInt = 0 ∨ (1 ≤ o_73.toInt ∧ o_73.toInt ≤ 60)) := hw
            obtain ⟨hw_75, hw_76, hw_77, hw_78, hw_79, hw_80⟩ := hw_74
            clear hw
            refine lv_if_ne (tgt := 116) hx hb dX9_readsLane_111 (by decide) (fun h_81 => ?_) (fun h_81 => ?_)
            · skip
              have zh_81 : ¬ r_67.toInt = 0 := z_ne h_81
              refine lv_aload_n hx hb dX9_readsLane_116 rfl (lv_at hl 0 rfl) ?_
              refine va_get (D := D) (ci := 9) (v := .ref obd) (C := RX9) (T := TX9) (N := 9) hx hb hts iT_X9 hown hK hP 5 rfl rfl 3 (by decide) (hts _ tw_1_201) (fun _ h9 => h9) rfl dX9_readsLane_117 ?_
              refine va_get (D := D) (ci := 10) (v := .ref obd_5) (C := RX10) (T := TX10) (N := 20) hx hb hts iT_X10 hown hK hP 0 rfl rfl 5 (by decide) (hts _ tw_1_95) (fun _ h9 => h9) rfl dX9_readsLane_120 ?_
              refine lv_iload_n hx hb dX9_readsLane_123 rfl (lv_at hl 1 rfl) ?_
              refine lv_aload_n hx hb dX9_readsLane_124 rfl (lv_at hl 0 rfl) ?_
              refine va_get (D := D) (ci := 9) (v := .int o_73) (C := RX9) (T := TX9) (N := 9) hx hb hts iT_X9 hown hK hP 5 rfl rfl 8 (by decide) (hts _ tw_1_207) (fun _ h9 => h9) rfl dX9_readsLane_125 ?_
              refine va_iast hx hb hK hP hD hS 3 0 rfl rfl (z_in (by omega) (by omega)) dX9_readsLane_128 (fun H locs hP hD hS => ?_)
              obtain ⟨g_82, eg_82⟩ : ∃ z : Nat → Int32, upd obdg5 p0.toNatClampNeg o_73 = z := ⟨_, rfl⟩
              have hP : va_P D vwCl [(obd, .inr (10, [.int obdv0, .int obdv1, .int obdv2, .ref obd_3, .ref obd_4, .ref obd_5, .ref obd_6, .int obdv7, .int obdv8, .ref obd_9, .ref obd_10, .int obdv11, .ref obd_12, .ref obd_13, .ref obd_14, .ref obd_15, .int obdv16, .ref obd_17, .ref obd_18, .ref obdt])), (obd_3, .inl (k 0, 10, .inl g_17)), (obd_4, .inl (k 0, 10, .inl g_51)), (obd_5, .inl (k 0, 10, .inl (upd obdg5 p0.toNatClampNeg o_73))), (obd_6, .inl (k 0, 10, .inl obdg6)), (ob, .inr (9, [.int obv0, .int o_68, .int o_69, .ref obd, .ref ob_4, .int o_70, .int o_71, .int o_72, .int o_73])), (ob_4, .inl (k 1, 1000, .inl obg4))] H := hP
              have hD : va_D A [(obd, .inr (10, [.int obdv0, .int obdv1, .int obdv2, .ref obd_3, .ref obd_4, .ref obd_5, .ref obd_6, .int obdv7, .int obdv8, .ref obd_9, .ref obd_10, .int obdv11, .ref obd_12, .ref obd_13, .ref obd_14, .ref obd_15, .int obdv16, .ref obd_17, .ref obd_18, .ref obdt])), (obd_3, .inl (k 0, 10, .inl g_17)), (obd_4, .inl (k 0, 10, .inl g_51)), (obd_5, .inl (k 0, 10, .inl (upd obdg5 p0.toNatClampNeg o_73))), (obd_6, .inl (k 0, 10, .inl obdg6)), (ob, .inr (9, [.int obv0, .int o_68, .int o_69, .ref obd, .ref ob_4, .int o_70, .int o_71, .int o_72, .int o_73])), (ob_4, .inl (k 1, 1000, .inl obg4))] := hD
              rw [eg_82] at hP hD
              have hp_83 : PR 10 1 0 0 60 g_82 := by rw [← eg_82]; exact PR.put hp_obdg5_0 ⟨by omega, by omega⟩
              refine lv_aload_n hx hb dX9_readsLane_129 rfl (lv_at hl 0 rfl) ?_
              refine va_get (D := D) (ci := 9) (v := .ref obd) (C := RX9) (T := TX9) (N := 9) hx hb hts iT_X9 hown hK hP 5 rfl rfl 3 (by decide) (hts _ tw_1_201) (fun _ h9 => h9) rfl dX9_readsLane_130 ?_
              refine va_get (D := D) (ci := 10) (v := .ref obd_6) (C := RX10) (T := TX10) (N := 20) hx hb hts iT_X10 hown hK hP 0 rfl rfl 6 (by decide) (hts _ tw_1_100) (fun _ h9 => h9) rfl dX9_readsLane_133 ?_
              refine lv_iload_n hx hb dX9_readsLane_136 rfl (lv_at hl 1 rfl) ?_
              refine lv_iconst (v := 0) hx hb dX9_readsLane_137 (by decide) ?_
              refine va_iast hx hb hK hP hD hS 4 0 rfl rfl (z_in (by omega) (by omega)) dX9_readsLane_138 (fun H locs hP hD hS => ?_)
              obtain ⟨g_84, eg_84⟩ : ∃ z : Nat → Int32, upd obdg6 p0.toNatClampNeg 0 = z := ⟨_, rfl⟩
              have hP : va_P D vwCl [(obd, .inr (10, [.int obdv0, .int obdv1, .int obdv2, .ref obd_3, .ref obd_4, .ref obd_5, .ref obd_6, .int obdv7, .int obdv8, .ref obd_9, .ref obd_10, .int obdv11, .ref obd_12, .ref obd_13, .ref obd_14, .ref obd_15, .int obdv16, .ref obd_17, .ref obd_18, .ref obdt])), (obd_3, .inl (k 0, 10, .inl g_17)), (obd_4, .inl (k 0, 10, .inl g_51)), (obd_5, .inl (k 0, 10, .inl g_82)), (obd_6, .inl (k 0, 10, .inl (upd obdg6 p0.toNatClampNeg 0))), (ob, .inr (9, [.int obv0, .int o_68, .int o_69, .ref obd, .ref ob_4, .int o_70, .int o_71, .int o_72, .int o_73])), (ob_4, .inl (k 1, 1000, .inl obg4))] H := hP
              have hD : va_D A [(obd, .inr (10, [.int obdv0, .int obdv1, .int obdv2, .ref obd_3, .ref obd_4, .ref obd_5, .ref obd_6, .int obdv7, .int obdv8, .ref obd_9, .ref obd_10, .int obdv11, .ref obd_12, .ref obd_13, .ref obd_14, .ref obd_15, .int obdv16, .ref obd_17, .ref obd_18, .ref obdt])), (obd_3, .inl (k 0, 10, .inl g_17)), (obd_4, .inl (k 0, 10, .inl g_51)), (obd_5, .inl (k 0, 10, .inl g_82)), (obd_6, .inl (k 0, 10, .inl (upd obdg6 p0.toNatClampNeg 0))), (ob, .inr (9, [.int obv0, .int o_68, .int o_69, .ref obd, .ref ob_4, .int o_70, .int o_71, .int o_72, .int o_73])), (ob_4, .inl (k 1, 1000, .inl obg4))] := hD
              rw [eg_84] at hP hD
              have hp_85 : PR 10 1 0 0 10 g_84 := by rw [← eg_84]; exact PR.put hp_obdg6_0 ⟨by decide, by decide⟩
              refine lv_aload_n hx hb dX9_readsLane_139 rfl (lv_at hl 0 rfl) ?_
              refine va_get (D := D) (ci := 9) (v := .ref obd) (C := RX9) (T := TX9) (N := 9) hx hb hts iT_X9 hown hK hP 5 rfl rfl 3 (by decide) (hts _ tw_1_201) (fun _ h9 => h9) rfl dX9_readsLane_140 ?_
              refine lv_dup hx hb dX9_readsLane_143 rfl ?_
              refine va_get (D := D) (ci := 10) (v := .int obdv2) (C := RX10) (T := TX10) (N := 20) hx hb hts iT_X10 hown hK hP 0 rfl rfl 2 (by decide) (hts _ tw_1_79) (fun _ h9 => h9) rfl dX9_readsLane_144 ?_
              refine lv_iconst (v := 1) hx hb dX9_readsLane_147 (by decide) ?_
              refine lv_iadd hx hb dX9_readsLane_148 ?_
              refine lv_topi (fun x_86 ex_86 => ?_)
              have zx_86 : x_86.toInt = obdv2.toInt + 1 := by rw [ex_86]; exact z_add rfl rfl (by omega) (by omega)
              refine va_put (D := D) (ci := 10) (v := .int x_86) (ty := tyX10 2) (C := RX10) (T := TX10) (N := 20) hx hb hts iT_X10 tyX10 tyX10_ok nmX10 hown hK hP hD hS 0 rfl rfl 2 (by decide) (hts _ tw_1_79) (fun _ h9 => h9) rfl (tyX10_ok 2 (by decide)) rfl rfl (Nat.le_of_ble_eq_true rfl) dX9_readsLane_149 (fun H locs hP hD hS => ?_)
              have hP : va_P D vwCl [(obd, .inr (10, [.int obdv0, .int obdv1, .int x_86, .ref obd_3, .ref obd_4, .ref obd_5, .ref obd_6, .int obdv7, .int obdv8, .ref obd_9, .ref obd_10, .int obdv11, .ref obd_12, .ref obd_13, .ref obd_14, .ref obd_15, .int obdv16, .ref obd_17, .ref obd_18, .ref obdt])), (obd_3, .inl (k 0, 10, .inl g_17)), (obd_4, .inl (k 0, 10, .inl g_51)), (obd_5, .inl (k 0, 10, .inl g_82)), (obd_6, .inl (k 0, 10, .inl g_84)), (ob, .inr (9, [.int obv0, .int o_68, .int o_69, .ref obd, .ref ob_4, .int o_70, .int o_71, .int o_72, .int o_73])), (ob_4, .inl (k 1, 1000, .inl obg4))] H := hP
              have hD : va_D A [(obd, .inr (10, [.int obdv0, .int obdv1, .int x_86, .ref obd_3, .ref obd_4, .ref obd_5, .ref obd_6, .int obdv7, .int obdv8, .ref obd_9, .ref obd_10, .int obdv11, .ref obd_12, .ref obd_13, .ref obd_14, .ref obd_15, .int obdv16, .ref obd_17, .ref obd_18, .ref obdt])), (obd_3, .inl (k 0, 10, .inl g_17)), (obd_4, .inl (k 0, 10, .inl g_51)), (obd_5, .inl (k 0, 10, .inl g_82)), (obd_6, .inl (k 0, 10, .inl g_84)), (ob, .inr (9, [.int obv0, .int o_68, .int o_69, .ref obd, .ref ob_4, .int o_70, .int o_71, .int o_72, .int o_73])), (ob_4, .inl (k 1, 1000, .inl obg4))] := hD
              refine lv_iconst (v := 1) hx hb dX9_readsLane_152 (by decide) ?_
              obtain ⟨hP9, hD9⟩ := sub2 hP hD (ws' := [(ob, .inr (9, [.int obv0, .int o_68, .int o_69, .ref obd, .ref ob_4, .int o_70, .int o_71, .int o_72, .int o_73])), (obd, .inr (10, [.int obdv0, .int obdv1, .int x_86, .ref obd_3, .ref obd_4, .ref obd_5, .ref obd_6, .int obdv7, .int obdv8, .ref obd_9, .ref obd_10, .int obdv11, .ref obd_12, .ref obd_13, .ref obd_14, .ref obd_15, .int obdv16, .ref obd_17, .ref obd_18, .ref obdt])), (obd_3, .inl (k 0, 10, .inl g_17)), (obd_4, .inl (k 0, 10, .inl g_51)), (obd_5, .inl (k 0, 10, .inl g_82)), (obd_6, .inl (k 0, 10, .inl g_84)), (ob_4, .inl (k 1, 1000, .inl obg4))]) [5, 0, 1, 2, 3, 4, 6] (by decide +kernel) rfl
              exact W.zret (v := 1) hx hb hr (by decide) (fun tZ ht hW => ⟨⟨1, (o_68, o_69, o_70, o_71, o_72, o_73, g_17, g_51, x_86, g_82, g_84), rfl, ⟨(show 0 ≤ 1 ∧ 1 ≤ 1 from by omega), (show 0 ≤ o_70.toInt ∧ o_70.toInt ≤ 4 from by omega), (show 0 ≤ o_71.toInt ∧ o_71.toInt ≤ 1000 from by omega), (show 0 ≤ o_72.toInt ∧ o_72.toInt ≤ 1000 from by omega), (show (-2147483648) ≤ o_73.toInt ∧ o_73.toInt ≤ 1000000 from by have := z_rng o_73; omega), hp_18, hp_52, (show 0 ≤ x_86.toInt ∧ x_86.toInt ≤ 10 from by omega), hp_83, hp_85⟩, by rw [ht]; exact hP9, va_K.moved hW.alike hK, hD9⟩, hS.F ht⟩) hS.2.2 dX9_readsLane_153
            · skip
              have zh_81 : r_67.toInt = 0 := z_eq h_81
              refine lv_iconst (v := 0) hx hb dX9_readsLane_114 (by decide) ?_
              obtain ⟨hP9, hD9⟩ := sub2 hP hD (ws' := [(ob, .inr (9, [.int obv0, .int o_68, .int o_69, .ref obd, .ref ob_4, .int o_70, .int o_71, .int o_72, .int o_73])), (obd, .inr (10, [.int obdv0, .int obdv1, .int obdv2, .ref obd_3, .ref obd_4, .ref obd_5, .ref obd_6, .int obdv7, .int obdv8, .ref obd_9, .ref obd_10, .int obdv11, .ref obd_12, .ref obd_13, .ref obd_14, .ref obd_15, .int obdv16, .ref obd_17, .ref obd_18, .ref obdt])), (obd_3, .inl (k 0, 10, .inl g_17)), (obd_4, .inl (k 0, 10, .inl g_51)), (obd_5, .inl (k 0, 10, .inl obdg5)), (obd_6, .inl (k 0, 10, .inl obdg6)), (ob_4, .inl (k 1, 1000, .inl obg4))]) [5, 0, 1, 2, 3, 4, 6] (by decide +kernel) rfl
              exact W.zret (v := 0) hx hb hr (by decide) (fun tZ ht hW => ⟨⟨0, (o_68, o_69, o_70, o_71, o_72, o_73, g_17, g_51, obdv2, obdg5, obdg6), rfl, ⟨(show 0 ≤ 0 ∧ 0 ≤ 1 from by omega), (show 0 ≤ o_70.toInt ∧ o_70.toInt ≤ 4 from by omega), (show 0 ≤ o_71.toInt ∧ o_71.toInt ≤ 1000 from by omega), (show 0 ≤ o_72.toInt ∧ o_72.toInt ≤ 1000 from by omega), (show (-2147483648) ≤ o_73.toInt ∧ o_73.toInt ≤ 1000000 from by have := z_rng o_73; omega), hp_18, hp_52, (show 0 ≤ obdv2.toInt ∧ obdv2.toInt ≤ 10 from by omega), hp_obdg5_0, hp_obdg6_0⟩, by rw [ht]; exact hP9, va_K.moved hW.alike hK, hD9⟩, hS.F ht⟩) hS.2.2 dX9_readsLane_115
        · skip
          have zh_50 : o_40.toInt = o_8.toInt := z_eq h_50
          refine lv_aload_n hx hb dX9_readsLane_76 rfl (lv_at hl 0 rfl) ?_
          refine lv_iconst (v := 2) hx hb dX9_readsLane_77 (by decide) ?_
          obtain ⟨hPc, hDc, hFc⟩ := sub3 hP hD hS hA (ws' := [(ob, .inr (9, [.int obv0, .int o_35, .int o_36, .ref obd, .ref ob_4, .int o_37, .int o_38, .int o_39, .int o_40]))]) [5] (by decide +kernel) rfl
          refine va_calli (va_runV (C := RX9) (As := [.int 2]) (rest := []) ⟨hx, hb, hml, hown, hts⟩ (c_X9_refuse l D k ob 2 obv0 o_35 o_36 obd ob_4 o_37 o_38 o_39 o_40 H.size (show 0 ≤ obv0.toInt ∧ obv0.toInt ≤ 1000 from by omega)) (cwV 1 hts (gV tw_3_85 tw_3_87 tw_p_6 tw_1_2 tw_3_88) rfl rfl rfl hdV_X9_refuse ⟨Nat.le_of_ble_eq_true rfl, Nat.le_of_ble_eq_true rfl⟩) (cz_V hK hPc hDc hN (ci := 9) (q0 := 0) rfl rfl [.int 2]) rfl rfl hl.1 rfl (lv_room (Nat.le_of_ble_eq_true rfl)) dX9_readsLane_78 ⟨Nat.le_of_ble_eq_true rfl, Nat.le_of_ble_eq_true rfl⟩) hS (fun q _ h => hFc q h) hFc (fun r_87 uZ tZ H1 locs ht hvm hw hB hz1 hk1 hS => ?_)
          obtain ⟨o_88, o_89⟩ := uZ
          obtain ⟨hP1, hK1, hD1⟩ := hB
          rw [ht] at hP1
          obtain ⟨hP, hD⟩ := va_join (wr := [(obd, .inr (10, [.int obdv0, .int obdv1, .int obdv2, .ref obd_3, .ref obd_4, .ref obd_5, .ref obd_6, .int obdv7, .int obdv8, .ref obd_9, .ref obd_10, .int obdv11, .ref obd_12, .ref obd_13, .ref obd_14, .ref obd_15, .int obdv16, .ref obd_17, .ref obd_18, .ref obdt])), (obd_3, .inl (k 0, 10, .inl g_17)), (obd_4, .inl (k 0, 10, .inl obdg4)), (obd_5, .inl (k 0, 10, .inl obdg5)), (obd_6, .inl (k 0, 10, .inl obdg6)), (ob_4, .inl (k 1, 1000, .inl obg4))]) (w1 := [(ob, .inr (9, [.int obv0, .int o_88, .int o_89, .ref obd, .ref ob_4, .int o_37, .int o_38, .int o_39, .int o_40]))]) hP hD [5] [0, 1, 2, 3, 4, 6] rfl rfl (by decide +kernel) (by decide +kernel) hk1 hFc hP1 hD1
          clear hK1 hP1 hD1 hPc hDc hFc
          clear hk1 hz1 ht hvm
          have hP : va_P D vwCl [(obd, .inr (10, [.int obdv0, .int obdv1, .int obdv2, .ref obd_3, .ref obd_4, .ref obd_5, .ref obd_6, .int obdv7, .int obdv8, .ref obd_9, .ref obd_10, .int obdv11, .ref obd_12, .ref obd_13, .ref obd_14, .ref obd_15, .int obdv16, .ref obd_17, .ref obd_18, .ref obdt])), (obd_3, .inl (k 0, 10, .inl g_17)), (obd_4, .inl (k 0, 10, .inl obdg4)), (obd_5, .inl (k 0, 10, .inl obdg5)), (obd_6, .inl (k 0, 10, .inl obdg6)), (ob_4, .inl (k 1, 1000, .inl obg4)), (ob, .inr (9, [.int obv0, .int o_88, .int o_89, .ref obd, .ref ob_4, .int o_37, .int o_38, .int o_39, .int o_40]))] H1 := hP
          have hD : va_D A [(obd, .inr (10, [.int obdv0, .int obdv1, .int obdv2, .ref obd_3, .ref obd_4, .ref obd_5, .ref obd_6, .int obdv7, .int obdv8, .ref obd_9, .ref obd_10, .int obdv11, .ref obd_12, .ref obd_13, .ref obd_14, .ref obd_15, .int obdv16, .ref obd_17, .ref obd_18, .ref obdt])), (obd_3, .inl (k 0, 10, .inl g_17)), (obd_4, .inl (k 0, 10, .inl obdg4)), (obd_5, .inl (k 0, 10, .inl obdg5)), (obd_6, .inl (k 0, 10, .inl obdg6)), (ob_4, .inl (k 1, 1000, .inl obg4)), (ob, .inr (9, [.int obv0, .int o_88, .int o_89, .ref obd, .ref ob_4, .int o_37, .int o_38, .int o_39, .int o_40]))] := hD
          generalize H1 = H at hP hS ⊢
          have hw_90 : (0 ≤ r_87.toInt ∧ r_87.toInt ≤ 0) := hw
          have hw_91 := hw_90
          clear hw
          obtain ⟨hP9, hD9⟩ := sub2 hP hD (ws' := [(ob, .inr (9, [.int obv0, .int o_88, .int o_89, .ref obd, .ref ob_4, .int o_37, .int o_38, .int o_39, .int o_40])), (obd, .inr (10, [.int obdv0, .int obdv1, .int obdv2, .ref obd_3, .ref obd_4, .ref obd_5, .ref obd_6, .int obdv7, .int obdv8, .ref obd_9, .ref obd_10, .int obdv11, .ref obd_12, .ref obd_13, .ref obd_14, .ref obd_15, .int obdv16, .ref obd_17, .ref obd_18, .ref obdt])), (obd_3, .inl (k 0, 10, .inl g_17)), (obd_4, .inl (k 0, 10, .inl obdg4)), (obd_5, .inl (k 0, 10, .inl obdg5)), (obd_6, .inl (k 0, 10, .inl obdg6)), (ob_4, .inl (k 1, 1000, .inl obg4))]) [6, 0, 1, 2, 3, 4, 5] (by decide +kernel) rfl
          exact W.zret (v := r_87) hx hb hr (z_nar (by omega)) (fun tZ ht hW => ⟨⟨r_87, (o_88, o_89, o_37, o_38, o_39, o_40, g_17, obdg4, obdv2, obdg5, obdg6), rfl, ⟨(show 0 ≤ r_87.toInt ∧ r_87.toInt ≤ 1 from by omega), (show 0 ≤ o_37.toInt ∧ o_37.toInt ≤ 4 from by omega), (show 0 ≤ o_38.toInt ∧ o_38.toInt ≤ 1000 from by omega), (show 0 ≤ o_39.toInt ∧ o_39.toInt ≤ 1000 from by omega), (show (-2147483648) ≤ o_40.toInt ∧ o_40.toInt ≤ 1000000 from by have := z_rng o_40; omega), hp_18, hp_obdg4_0, (show 0 ≤ obdv2.toInt ∧ obdv2.toInt ≤ 10 from by omega), hp_obdg5_0, hp_obdg6_0⟩, by rw [ht]; exact hP9, va_K.moved hW.alike hK, hD9⟩, hS.F ht⟩) hS.2.2 dX9_readsLane_81
      · skip
        have zh_48 : r_34.toInt = 0 := z_eq h_48
        refine lv_iconst (v := 0) hx hb dX9_readsLane_58 (by decide) ?_
        obtain ⟨hP9, hD9⟩ := sub2 hP hD (ws' := [(ob, .inr (9, [.int obv0, .int o_35, .int o_36, .ref obd, .ref ob_4, .int o_37, .int o_38, .int o_39, .int o_40])), (obd, .inr (10, [.int obdv0, .int obdv1, .int obdv2, .ref obd_3, .ref obd_4, .ref obd_5, .ref obd_6, .int obdv7, .int obdv8, .ref obd_9, .ref obd_10, .int obdv11, .ref obd_12, .ref obd_13, .ref obd_14, .ref obd_15, .int obdv16, .ref obd_17, .ref obd_18, .ref obdt])), (obd_3, .inl (k 0, 10, .inl g_17)), (obd_4, .inl (k 0, 10, .inl obdg4)), (obd_5, .inl (k 0, 10, .inl obdg5)), (obd_6, .inl (k 0, 10, .inl obdg6)), (ob_4, .inl (k 1, 1000, .inl obg4))]) [5, 0, 1, 2, 3, 4, 6] (by decide +kernel) rfl
        exact W.zret (v := 0) hx hb hr (by decide) (fun tZ ht hW => ⟨⟨0, (o_35, o_36, o_37, o_38, o_39, o_40, g_17, obdg4, obdv2, obdg5, obdg6), rfl, ⟨(show 0 ≤ 0 ∧ 0 ≤ 1 from by omega), (show 0 ≤ o_37.toInt ∧ o_37.toInt ≤ 4 from by omega), (show 0 ≤ o_38.toInt ∧ o_38.toInt ≤ 1000 from by omega), (show 0 ≤ o_39.toInt ∧ o_39.toInt ≤ 1000 from by omega), (show (-2147483648) ≤ o_40.toInt ∧ o_40.toInt ≤ 1000000 from by have := z_rng o_40; omega), hp_18, hp_obdg4_0, (show 0 ≤ obdv2.toInt ∧ obdv2.toInt ≤ 10 from by omega), hp_obdg5_0, hp_obdg6_0⟩, by rw [ht]; exact hP9, va_K.moved hW.alike hK, hD9⟩, hS.F ht⟩) hS.2.2 dX9_readsLane_59
  · skip
    have zh_16 : r_2.toInt = 0 := z_eq h_16
    refine lv_iconst (v := 0) hx hb dX9_readsLane_17 (by decide) ?_
    obtain ⟨hP9, hD9⟩ := sub2 hP hD (ws' := [(ob, .inr (9, [.int obv0, .int o_3, .int o_4, .ref obd, .ref ob_4, .int o_5, .int o_6, .int o_7, .int o_8])), (obd, .inr (10, [.int obdv0, .int obdv1, .int obdv2, .ref obd_3, .ref obd_4, .ref obd_5, .ref obd_6, .int obdv7, .int obdv8, .ref obd_9, .ref obd_10, .int obdv11, .ref obd_12, .ref obd_13, .ref obd_14, .ref obd_15, .int obdv16, .ref obd_17, .ref obd_18, .ref obdt])), (obd_3, .inl (k 0, 10, .inl obdg3)), (obd_4, .inl (k 0, 10, .inl obdg4)), (obd_5, .inl (k 0, 10, .inl obdg5)), (obd_6, .inl (k 0, 10, .inl obdg6)), (ob_4, .inl (k 1, 1000, .inl obg4))]) [5, 0, 1, 2, 3, 4, 6] (by decide +kernel) rfl
    exact W.zret (v := 0) hx hb hr (by decide) (fun tZ ht hW => ⟨⟨0, (o_3, o_4, o_5, o_6, o_7, o_8, obdg3, obdg4, obdv2, obdg5, obdg6), rfl, ⟨(show 0 ≤ 0 ∧ 0 ≤ 1 from by omega), (show 0 ≤ o_5.toInt ∧ o_5.toInt ≤ 4 from by omega), (show 0 ≤ o_6.toInt ∧ o_6.toInt ≤ 1000 from by omega), (show 0 ≤ o_7.toInt ∧ o_7.toInt ≤ 1000 from by omega), (show (-2147483648) ≤ o_8.toInt ∧ o_8.toInt ≤ 1000000 from by have := z_rng o_8; omega), hp_obdg3_0, hp_obdg4_0, (show 0 ≤ obdv2.toInt ∧ obdv2.toInt ≤ 10 from by omega), hp_obdg5_0, hp_obdg6_0⟩, by rw [ht]; exact hP9, va_K.moved hW.alike hK, hD9⟩, hS.F ht⟩) hS.2.2 dX9_readsLane_18
set_option maxHeartbeats 4000000 in
set_option maxRecDepth 100000 in
theorem c_X10_setBarred (l : Launch) (D : va_G) (k : Nat → ClassId) (ob : Nat) (p0 : Int32) (p1 : Int32) (obv0 : Int32) (obv1 : Int32) (obv2 : Int32) (ob_3 : Nat) (ob_4 : Nat) (ob_5 : Nat) (ob_6 : Nat) (obv7 : Int32) (obv8 : Int32) (ob_9 : Nat) (ob_10 : Nat) (obv11 : Int32) (ob_12 : Nat) (ob_13 : Nat) (ob_14 : Nat) (ob_15 : Nat) (obv16 : Int32) (ob_17 : Nat) (ob_18 : Nat) (obt : Nat) (sz : Nat) (h_obv0 : 0 ≤ obv0.toInt ∧ obv0.toInt ≤ 8) (h_obv2 : 0 ≤ obv2.toInt ∧ obv2.toInt ≤ 10) (h_obv8 : 0 ≤ obv8.toInt ∧ obv8.toInt ≤ 4) (h_obv11 : 0 ≤ obv11.toInt ∧ obv11.toInt ≤ 6) (h_obv16 : 0 ≤ obv16.toInt ∧ obv16.toInt ≤ 2) : Met l yX10_setBarred (ww yX10_setBarred cX10_setBarred 3 none) ({ frames := 0, cells := 0, slots := 0, locals := 0 }) (Pre0 D k [(ob, .inr (10, [.int obv0, .int obv1, .int obv2, .ref ob_3, .ref ob_4, .ref ob_5, .ref ob_6, .int obv7, .int obv8, .ref ob_9, .ref ob_10, .int obv11, .ref ob_12, .ref ob_13, .ref ob_14, .ref ob_15, .int obv16, .ref ob_17, .ref ob_18, .ref obt]))] sz [.ref ob, .int p0, .int p1]) (va_Qv (fun (obv7z : Int32) => True) (fun (obv7z : Int32) tZ => Bw D k (va_A [(ob, .inr (10, [.int obv0, .int obv1, .int obv2, .ref ob_3, .ref ob_4, .ref ob_5, .ref ob_6, .int obv7, .int obv8, .ref ob_9, .ref ob_10, .int obv11, .ref ob_12, .ref ob_13, .ref ob_14, .ref ob_15, .int obv16, .ref ob_17, .ref ob_18, .ref obt]))] sz) [(ob, .inr (10, [.int obv0, .int obv1, .int obv2, .ref ob_3, .ref ob_4, .ref ob_5, .ref ob_6, .int obv7z, .int obv8, .ref ob_9, .ref ob_10, .int obv11, .ref ob_12, .ref ob_13, .ref ob_14, .ref ob_15, .int obv16, .ref ob_17, .ref ob_18, .ref obt]))] tZ) (va_A [(ob, .inr (10, [.int obv0, .int obv1, .int obv2, .ref ob_3, .ref ob_4, .ref ob_5, .ref ob_6, .int obv7, .int obv8, .ref ob_9, .ref ob_10, .int obv11, .ref ob_12, .ref ob_13, .ref ob_14, .ref ob_15, .int obv16, .ref ob_17, .ref ob_18, .ref obt]))] sz)) 0 0 (va_A [(ob, .inr (10, [.int obv0, .int obv1, .int obv2, .ref ob_3, .ref ob_4, .ref ob_5, .ref ob_6, .int obv7, .int obv8, .ref ob_9, .ref ob_10, .int obv11, .ref ob_12, .ref ob_13, .ref ob_14, .ref ob_15, .int obv16, .ref ob_17, .ref ob_18, .ref obt]))] sz) := by
  refine Met.ofW (cc := cX10_setBarred) (maxL := 3) (ret := none) (by decide +kernel) rfl ?_
  intro p e s m args below meth c s₁ B hml hv
  obtain ⟨rfl, hsz, hP, hK, hD0, hN⟩ := hv
  have hx := B.exec
  have hb := B.bytes
  have hr := B.returns
  have hts : ∀ w ∈ TT, w.before _ s = true := fun w h => atoms_spec (ws := ww yX10_setBarred cX10_setBarred 3 none) B.pre w (List.mem_cons_of_mem _ h)
  have hown : s.vm.findClass RX10 = some m.cls := findClass_of_methodNamed B.named
  have hlocks := B.notSynchronized
  subst hsz
  have hD := hD0.self (sz := s.heap.size)
  generalize hAe : va_A [(ob, .inr (10, [.int obv0, .int obv1, .int obv2, .ref ob_3, .ref ob_4, .ref ob_5, .ref ob_6, .int obv7, .int obv8, .ref ob_9, .ref ob_10, .int obv11, .ref ob_12, .ref ob_13, .ref ob_14, .ref ob_15, .int obv16, .ref ob_17, .ref ob_18, .ref obt]))] s.heap.size = A at hD ⊢
  have hA : ∀ q : Nat, s.heap.size ≤ q → A q := fun q h => by rw [← hAe]; exact Or.inr h
  have hS : va_S A s.heap s.heap [] := va_S.rf
  have hl := lv_entry ([.ref ob, .int p0, .int p1]) (n := 3) (Nat.le_of_ble_eq_true rfl)
  rw [lg_entry_eq]
  generalize (lg_sl ([.ref ob, .int p0, .int p1]) ++ List.replicate (3 - (lg_sl ([.ref ob, .int p0, .int p1])).length) Slot.unset).toArray = ls at hl ⊢
  have hl : lv_has ls 3 [(0, .ref ob), (1, .int p0), (2, .int p1)] := hl
  refine lv_aload_n hx hb dX10_setBarred_0 rfl (lv_at hl 0 rfl) ?_
  refine lv_iload_n hx hb dX10_setBarred_1 rfl (lv_at hl 2 rfl) ?_
  refine lv_iconst (v := 1) hx hb dX10_setBarred_2 (by decide) ?_
  refine lv_icmp_ne (tgt := 17) hx hb dX10_setBarred_3 (by decide) (fun h_1 => ?_) (fun h_1 => ?_)
  · skip
    have zh_1 : ¬ p1.toInt = 1 := z_ne h_1
    refine lv_aload_n hx hb dX10_setBarred_17 rfl (lv_at hl 0 rfl) ?_
    refine va_get (D := D) (ci := 10) (v := .int obv7) (C := RX10) (T := TX10) (N := 20) hx hb hts iT_X10 hown hK hP 0 rfl rfl 7 (by decide) (hts _ tw_1_101) (fun _ h9 => h9) rfl dX10_setBarred_18 ?_
    refine lv_iconst (v := 1) hx hb dX10_setBarred_21 (by decide) ?_
    refine lv_iload_n hx hb dX10_setBarred_22 rfl (lv_at hl 1 rfl) ?_
    refine lv_ishl hx hb dX10_setBarred_23 ?_
    refine lv_topi (fun x_2 ex_2 => ?_)
    have zrp0 := z_rng p0
    refine lv_iconst (v := (-1)) hx hb dX10_setBarred_24 (by decide) ?_
    refine lv_ixor hx hb dX10_setBarred_25 ?_
    refine lv_topi (fun x_3 ex_3 => ?_)
    have zrx_2 := z_rng x_2
    refine lv_iand hx hb dX10_setBarred_26 ?_
    refine lv_topi (fun x_4 ex_4 => ?_)
    have zrobv7 := z_rng obv7
    have zrx_3 := z_rng x_3
    refine va_put (D := D) (ci := 10) (v := .int x_4) (ty := tyX10 7) (C := RX10) (T := TX10) (N := 20) hx hb hts iT_X10 tyX10 tyX10_ok nmX10 hown hK hP hD hS 0 rfl rfl 7 (by decide) (hts _ tw_1_101) (fun _ h9 => h9) rfl (tyX10_ok 7 (by decide)) rfl rfl (Nat.le_of_ble_eq_true rfl) dX10_setBarred_27 (fun H locs hP hD hS => ?_)
    have hP : va_P D vwCl [(ob, .inr (10, [.int obv0, .int obv1, .int obv2, .ref ob_3, .ref ob_4, .ref ob_5, .ref ob_6, .int x_4, .int obv8, .ref ob_9, .ref ob_10, .int obv11, .ref ob_12, .ref ob_13, .ref ob_14, .ref ob_15, .int obv16, .ref ob_17, .ref ob_18, .ref obt]))] H := hP
    have hD : va_D A [(ob, .inr (10, [.int obv0, .int obv1, .int obv2, .ref ob_3, .ref ob_4, .ref ob_5, .ref ob_6, .int x_4, .int obv8, .ref ob_9, .ref ob_10, .int obv11, .ref ob_12, .ref ob_13, .ref ob_14, .ref ob_15, .int obv16, .ref ob_17, .ref ob_18, .ref obt]))] := hD
    obtain ⟨hP9, hD9⟩ := sub2 hP hD (ws' := [(ob, .inr (10, [.int obv0, .int obv1, .int obv2, .ref ob_3, .ref ob_4, .ref ob_5, .ref ob_6, .int x_4, .int obv8, .ref ob_9, .ref ob_10, .int obv11, .ref ob_12, .ref ob_13, .ref ob_14, .ref ob_15, .int obv16, .ref ob_17, .ref ob_18, .ref obt]))]) [0] (by decide +kernel) rfl
    exact W.vret hx hb hr (fun tZ ht hW => ⟨⟨x_4, rfl, trivial, by rw [ht]; exact hP9, va_K.moved hW.alike hK, hD9⟩, hS.F ht⟩) hS.2.2 dX10_setBarred_30
  · skip
    have zh_1 : p1.toInt = 1 := z_eq h_1
    refine lv_aload_n hx hb dX10_setBarred_6 rfl (lv_at hl 0 rfl) ?_
    refine va_get (D := D) (ci := 10) (v := .int obv7) (C := RX10) (T := TX10) (N := 20) hx hb hts iT_X10 hown hK hP 0 rfl rfl 7 (by decide) (hts _ tw_1_101) (fun _ h9 => h9) rfl dX10_setBarred_7 ?_
    refine lv_iconst (v := 1) hx hb dX10_setBarred_10 (by decide) ?_
    refine lv_iload_n hx hb dX10_setBarred_11 rfl (lv_at hl 1 rfl) ?_
    refine lv_ishl hx hb dX10_setBarred_12 ?_
    refine lv_topi (fun x_5 ex_5 => ?_)
    have zrp0 := z_rng p0
    refine lv_ior hx hb dX10_setBarred_13 ?_
    refine lv_topi (fun x_6 ex_6 => ?_)
    have zrobv7 := z_rng obv7
    have zrx_5 := z_rng x_5
    refine lv_goto (tgt := 27) hx hb dX10_setBarred_14 (by decide) ?_
    refine va_put (D := D) (ci := 10) (v := .int x_6) (ty := tyX10 7) (C := RX10) (T := TX10) (N := 20) hx hb hts iT_X10 tyX10 tyX10_ok nmX10 hown hK hP hD hS 0 rfl rfl 7 (by decide) (hts _ tw_1_101) (fun _ h9 => h9) rfl (tyX10_ok 7 (by decide)) rfl rfl (Nat.le_of_ble_eq_true rfl) dX10_setBarred_27 (fun H locs hP hD hS => ?_)
    have hP : va_P D vwCl [(ob, .inr (10, [.int obv0, .int obv1, .int obv2, .ref ob_3, .ref ob_4, .ref ob_5, .ref ob_6, .int x_6, .int obv8, .ref ob_9, .ref ob_10, .int obv11, .ref ob_12, .ref ob_13, .ref ob_14, .ref ob_15, .int obv16, .ref ob_17, .ref ob_18, .ref obt]))] H := hP
    have hD : va_D A [(ob, .inr (10, [.int obv0, .int obv1, .int obv2, .ref ob_3, .ref ob_4, .ref ob_5, .ref ob_6, .int x_6, .int obv8, .ref ob_9, .ref ob_10, .int obv11, .ref ob_12, .ref ob_13, .ref ob_14, .ref ob_15, .int obv16, .ref ob_17, .ref ob_18, .ref obt]))] := hD
    obtain ⟨hP9, hD9⟩ := sub2 hP hD (ws' := [(ob, .inr (10, [.int obv0, .int obv1, .int obv2, .ref ob_3, .ref ob_4, .ref ob_5, .ref ob_6, .int x_6, .int obv8, .ref ob_9, .ref ob_10, .int obv11, .ref ob_12, .ref ob_13, .ref ob_14, .ref ob_15, .int obv16, .ref ob_17, .ref ob_18, .ref obt]))]) [0] (by decide +kernel) rfl
    exact W.vret hx hb hr (fun tZ ht hW => ⟨⟨x_6, rfl, trivial, by rw [ht]; exact hP9, va_K.moved hW.alike hK, hD9⟩, hS.F ht⟩) hS.2.2 dX10_setBarred_30
