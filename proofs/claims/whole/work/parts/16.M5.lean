set_option maxHeartbeats 4000000 in
set_option maxRecDepth 100000 in
theorem c_M_store (l : Launch) (dC : Nat → ClassId) (dI : Nat → Nat → Nat) (h0 q1 q2 q3 q4 : Nat) (k1 k2 k3 k4 : ClassId) (sz : Nat) (g b t w : Nat → Int32) (a1 a2 a3 : Int32) : Met l yM_store wsM_store ({ frames := 2, cells := 0, slots := 0, locals := 43 }) (va_Pc [.ref h0, .int a1, .int a2, .int a3] (fun U => U.heap.size = sz ∧ va_P (dC, dI) vwCl (wsM h0 q1 q2 q3 q4 k1 k2 k3 k4 g b t w) U.heap ∧ va_K (dC, dI) vwCl [(k1, .boolean), (k2, .int), (k3, .int), (k4, .int)] U ∧ va_D (fun _ => True) (wsM h0 q1 q2 q3 q4 k1 k2 k3 k4 g b t w))) (va_Qi (fun (r : Int32) (_ : Unit) => r = f_M_store g b t w a1 a2 a3) (fun _ tt => va_P (dC, dI) vwCl (wsM h0 q1 q2 q3 q4 k1 k2 k3 k4 ((u_M_store_g g b t w a1 a2 a3)) ((u_M_store_b g b t w a1 a2 a3)) t ((u_M_store_w g b t w a1 a2 a3))) tt.heap ∧ va_D (va_A (wsM h0 q1 q2 q3 q4 k1 k2 k3 k4 g b t w) sz) (wsM h0 q1 q2 q3 q4 k1 k2 k3 k4 ((u_M_store_g g b t w a1 a2 a3)) ((u_M_store_b g b t w a1 a2 a3)) t ((u_M_store_w g b t w a1 a2 a3)))) (va_A (wsM h0 q1 q2 q3 q4 k1 k2 k3 k4 g b t w) sz)) 0 0 (va_A (wsM h0 q1 q2 q3 q4 k1 k2 k3 k4 g b t w) sz) := by
  refine Met.ofW (cc := prog_3_method_12_code) (maxL := 6) (ret := (some .boolean)) (by decide) rfl ?_
  intro p e s m args below meth c s₁ B hml hv
  obtain ⟨rfl, hsz, hP, hK, hD0⟩ := hv
  have hx := B.exec
  have hb := B.bytes
  have hr := B.returns
  have hts := fun (w : Cond) (h : w ∈ gw) => atoms_spec (ws := wsM_store) B.pre w (List.mem_cons_of_mem _ h)
  have hown : s.vm.findClass RM = some m.cls := findClass_of_methodNamed B.named
  have hlocks := B.notSynchronized
  subst hsz
  have hD := hD0.self (sz := s.heap.size)
  generalize hAe : va_A (wsM h0 q1 q2 q3 q4 k1 k2 k3 k4 g b t w) s.heap.size = A at hD ⊢
  have hS : va_S A s.heap s.heap [] := va_S.rf
  have hl := lv_entry ([.ref h0, .int a1, .int a2, .int a3]) (n := 6) (Nat.le_of_ble_eq_true rfl)
  rw [lg_entry_eq]
  generalize (lg_sl ([.ref h0, .int a1, .int a2, .int a3]) ++ List.replicate (6 - (lg_sl ([.ref h0, .int a1, .int a2, .int a3])).length) Slot.unset).toArray = ls at hl ⊢
  have hl : lv_has ls 6 [(0, .ref h0), (1, .int a1), (2, .int a2), (3, .int a3)] := hl
  refine lv_aload_n hx hb dM_store_0 rfl (lv_at hl 0 rfl) ?_
  refine lv_iload_n hx hb dM_store_1 rfl (lv_at hl 1 rfl) ?_
  refine lv_iload_n hx hb dM_store_2 rfl (lv_at hl 2 rfl) ?_
  refine lv_iload_n hx hb dM_store_3 rfl (lv_at hl 3 rfl) ?_
  refine kk_callP (va_runV (As := [.int a1, .int a2, .int a3]) (rest := []) ⟨hx, hb, hml, hown, hts⟩ (c_M_may l h0 a1 a2 a3) (cwV 3 hts (gV tw_255 tw_257 tw_p1 tw_2 tw_258) rfl rfl rfl (by decide +kernel) ⟨Nat.le_of_ble_eq_true rfl, Nat.le_of_ble_eq_true rfl⟩) ⟨fun _ _ _ _ q => q, va_recv hK hP (ci := 1) (q0 := 0) rfl rfl, fun _ _ _ => ⟨rfl, trivial⟩⟩ rfl rfl hl.1 rfl (lv_room (Nat.le_of_ble_eq_true rfl)) dM_store_4 ⟨Nat.le_of_ble_eq_true rfl, Nat.le_of_ble_eq_true rfl⟩) hS hP (fun H locs hS hP => ?_)
  refine lv_if_ne (tgt := 12) hx hb dM_store_7 (by decide) (fun c_1 => ?_) (fun c_1 => ?_)
  · refine lv_iconst (v := (1 : Int32)) hx hb dM_store_12 (by decide) ?_
    refine lv_istore (lv' := [(4, .int (1 : Int32)), (0, .ref h0), (1, .int a1), (2, .int a2), (3, .int a3)]) hx hb dM_store_13 hl (by decide) rfl (fun ls hl => ?_)
    refine lv_iload hx hb dM_store_15 (lv_at hl 0 rfl) ?_
    refine lv_bipush (v := (6 : Int32)) hx hb dM_store_17 (by decide) ?_
    refine lv_icmp_ge (tgt := 99) hx hb dM_store_19 (by decide) (fun c0 => absurd c0 (by decide)) (fun _ => ?_)
    refine lv_iload hx hb dM_store_22 (lv_at hl 0 rfl) ?_
    refine lv_iload_n hx hb dM_store_24 rfl (lv_at hl 4 rfl) ?_
    refine kk_callP (va_runS (As := [.int a3]) (rest := [.int (1 : Int32)]) ⟨hx, hb, hml, hown, hts⟩ (c_M_first l a3) (va_cwS 1 hts (gS tw_262 tw_263 tw_2 tw_264) rfl rfl rfl (by decide +kernel) ⟨Nat.le_of_ble_eq_true rfl, Nat.le_of_ble_eq_true rfl⟩) ⟨fun _ _ _ _ q => q, fun _ _ _ => ⟨rfl, trivial⟩⟩ rfl rfl hl.1 rfl (lv_room (Nat.le_of_ble_eq_true rfl)) dM_store_25 ⟨Nat.le_of_ble_eq_true rfl, Nat.le_of_ble_eq_true rfl⟩) hS hP (fun H locs hS hP => ?_)
    refine kk_mrg (pc' := 45) (ls' := ls) (rest' := []) (x := (if (1 : Int32) < (f_M_first a3) then (0 : Int32) else (if (a3 - a3 / (8 : Int32) * (8 : Int32)) < (1 : Int32) then (0 : Int32) else (1 : Int32)))) (fun hk_2 => ?_) (fun v_5 ev_5 => ?_)
    · refine lv_icmp_lt (tgt := 44) hx hb dM_store_28 (by decide) (fun c_3 => ?_) (fun c_3 => ?_)
      · refine lv_iconst (v := (0 : Int32)) hx hb dM_store_44 (by decide) ?_
        exact hk_2 _ (by rw [if_pos c_3])
      · refine lv_iload hx hb dM_store_31 (lv_at hl 0 rfl) ?_
        refine lv_iload_n hx hb dM_store_33 rfl (lv_at hl 4 rfl) ?_
        refine lv_bipush (v := (8 : Int32)) hx hb dM_store_34 (by decide) ?_
        refine lv_irem hx hb dM_store_36 (by decide) ?_
        refine lv_icmp_gt (tgt := 44) hx hb dM_store_37 (by decide) (fun c_4 => ?_) (fun c_4 => ?_)
        · refine lv_iconst (v := (0 : Int32)) hx hb dM_store_44 (by decide) ?_
          exact hk_2 _ (by rw [if_neg c_3, if_pos c_4])
        · refine lv_iconst (v := (1 : Int32)) hx hb dM_store_40 (by decide) ?_
          refine lv_goto (tgt := 45) hx hb dM_store_41 (by decide) ?_
          exact hk_2 _ (by rw [if_neg c_3, if_neg c_4])
    refine lv_istore (lv' := [(5, .int v_5), (4, .int (1 : Int32)), (0, .ref h0), (1, .int a1), (2, .int a2), (3, .int a3)]) hx hb dM_store_45 hl (by decide) rfl (fun ls hl => ?_)
    refine lv_aload_n hx hb dM_store_47 rfl (lv_at hl 2 rfl) ?_
    refine va_get (D := (dC, dI)) (ci := 1) (v := .ref q4) (C := RM) (T := TM) (N := 4) hx hb hts iM hown hK hP 0 rfl rfl 3 (by decide) (hts _ tw_217) (fun _ h9 => h9) rfl dM_store_48 ?_
    refine lv_iload hx hb dM_store_51 (lv_at hl 1 rfl) ?_
    refine kk_mrg (pc' := 92) (ls' := ls) (rest' := [.int (1 : Int32), .ref q4]) (x := (if v_5 = 0 then (b (((6 : Int32) * a1) + (1 : Int32)).toNatClampNeg) else (b (((((6 : Int32) * a2) + (1 : Int32)) + (5 : Int32)) - (a3 - a3 / (8 : Int32) * (8 : Int32))).toNatClampNeg))) (fun hk_6 => ?_) (fun v_8 ev_8 => ?_)
    · refine lv_iload hx hb dM_store_53 (lv_at hl 0 rfl) ?_
      refine lv_if_eq (tgt := 80) hx hb dM_store_55 (by decide) (fun c_7 => ?_) (fun c_7 => ?_)
      · refine lv_aload_n hx hb dM_store_80 rfl (lv_at hl 2 rfl) ?_
        refine va_get (D := (dC, dI)) (ci := 1) (v := .ref q2) (C := RM) (T := TM) (N := 4) hx hb hts iM hown hK hP 0 rfl rfl 1 (by decide) (hts _ tw_215) (fun _ h9 => h9) rfl dM_store_81 ?_
        refine lv_bipush (v := (6 : Int32)) hx hb dM_store_84 (by decide) ?_
        refine lv_iload_n hx hb dM_store_86 rfl (lv_at hl 3 rfl) ?_
        refine lv_imul hx hb dM_store_87 ?_
        refine lv_iload hx hb dM_store_88 (lv_at hl 1 rfl) ?_
        refine lv_iadd hx hb dM_store_90 ?_
        refine va_iald hx hb hK hP 2 1 rfl rfl (in_96 (may_1 c_1) (by unfold vp_in; decide)) dM_store_91 ?_
        exact hk_6 _ (by rw [if_pos c_7])
      · refine lv_aload_n hx hb dM_store_58 rfl (lv_at hl 2 rfl) ?_
        refine va_get (D := (dC, dI)) (ci := 1) (v := .ref q2) (C := RM) (T := TM) (N := 4) hx hb hts iM hown hK hP 0 rfl rfl 1 (by decide) (hts _ tw_215) (fun _ h9 => h9) rfl dM_store_59 ?_
        refine lv_bipush (v := (6 : Int32)) hx hb dM_store_62 (by decide) ?_
        refine lv_iload_n hx hb dM_store_64 rfl (lv_at hl 4 rfl) ?_
        refine lv_imul hx hb dM_store_65 ?_
        refine lv_iload hx hb dM_store_66 (lv_at hl 1 rfl) ?_
        refine lv_iadd hx hb dM_store_68 ?_
        refine lv_iconst (v := (5 : Int32)) hx hb dM_store_69 (by decide) ?_
        refine lv_iadd hx hb dM_store_70 ?_
        refine lv_iload_n hx hb dM_store_71 rfl (lv_at hl 5 rfl) ?_
        refine lv_bipush (v := (8 : Int32)) hx hb dM_store_72 (by decide) ?_
        refine lv_irem hx hb dM_store_74 (by decide) ?_
        refine lv_isub hx hb dM_store_75 ?_
        refine va_iald hx hb hK hP 2 1 rfl rfl (in_96S c_1 (by unfold vp_in; decide) ev_5 c_7) dM_store_76 ?_
        refine lv_goto (tgt := 92) hx hb dM_store_77 (by decide) ?_
        exact hk_6 _ (by rw [if_neg c_7])
    refine va_iast hx hb hK hP hD hS 4 3 rfl rfl (by unfold vp_in; decide) dM_store_92 (fun H locs hP hD hS => ?_)
    have hP : va_P (dC, dI) vwCl (wsM h0 q1 q2 q3 q4 k1 k2 k3 k4 g b t (upd w 1 v_8)) H := hP
    have hD : va_D A (wsM h0 q1 q2 q3 q4 k1 k2 k3 k4 g b t (upd w 1 v_8)) := hD
    refine lv_iinc (v := (2 : Int32)) (lv' := [(4, .int (2 : Int32)), (5, .int v_5), (0, .ref h0), (1, .int a1), (2, .int a2), (3, .int a3)]) hx hb dM_store_93 hl (k := 1) rfl (by decide) (by decide) rfl (fun ls hl => ?_)
    refine lv_goto (tgt := 15) hx hb dM_store_96 (by decide) ?_
    refine lv_iload hx hb dM_store_15 (lv_at hl 0 rfl) ?_
    refine lv_bipush (v := (6 : Int32)) hx hb dM_store_17 (by decide) ?_
    refine lv_icmp_ge (tgt := 99) hx hb dM_store_19 (by decide) (fun c0 => absurd c0 (by decide)) (fun _ => ?_)
    refine lv_iload hx hb dM_store_22 (lv_at hl 0 rfl) ?_
    refine lv_iload_n hx hb dM_store_24 rfl (lv_at hl 5 rfl) ?_
    refine kk_callP (va_runS (As := [.int a3]) (rest := [.int (2 : Int32)]) ⟨hx, hb, hml, hown, hts⟩ (c_M_first l a3) (va_cwS 1 hts (gS tw_262 tw_263 tw_2 tw_264) rfl rfl rfl (by decide +kernel) ⟨Nat.le_of_ble_eq_true rfl, Nat.le_of_ble_eq_true rfl⟩) ⟨fun _ _ _ _ q => q, fun _ _ _ => ⟨rfl, trivial⟩⟩ rfl rfl hl.1 rfl (lv_room (Nat.le_of_ble_eq_true rfl)) dM_store_25 ⟨Nat.le_of_ble_eq_true rfl, Nat.le_of_ble_eq_true rfl⟩) hS hP (fun H locs hS hP => ?_)
    refine kk_mrg (pc' := 45) (ls' := ls) (rest' := []) (x := (if (2 : Int32) < (f_M_first a3) then (0 : Int32) else (if (a3 - a3 / (8 : Int32) * (8 : Int32)) < (2 : Int32) then (0 : Int32) else (1 : Int32)))) (fun hk_9 => ?_) (fun v_12 ev_12 => ?_)
    · refine lv_icmp_lt (tgt := 44) hx hb dM_store_28 (by decide) (fun c_10 => ?_) (fun c_10 => ?_)
      · refine lv_iconst (v := (0 : Int32)) hx hb dM_store_44 (by decide) ?_
        exact hk_9 _ (by rw [if_pos c_10])
      · refine lv_iload hx hb dM_store_31 (lv_at hl 0 rfl) ?_
        refine lv_iload_n hx hb dM_store_33 rfl (lv_at hl 5 rfl) ?_
        refine lv_bipush (v := (8 : Int32)) hx hb dM_store_34 (by decide) ?_
        refine lv_irem hx hb dM_store_36 (by decide) ?_
        refine lv_icmp_gt (tgt := 44) hx hb dM_store_37 (by decide) (fun c_11 => ?_) (fun c_11 => ?_)
        · refine lv_iconst (v := (0 : Int32)) hx hb dM_store_44 (by decide) ?_
          exact hk_9 _ (by rw [if_neg c_10, if_pos c_11])
        · refine lv_iconst (v := (1 : Int32)) hx hb dM_store_40 (by decide) ?_
          refine lv_goto (tgt := 45) hx hb dM_store_41 (by decide) ?_
          exact hk_9 _ (by rw [if_neg c_10, if_neg c_11])
    refine lv_istore (lv' := [(5, .int v_12), (4, .int (2 : Int32)), (0, .ref h0), (1, .int a1), (2, .int a2), (3, .int a3)]) hx hb dM_store_45 hl (by decide) rfl (fun ls hl => ?_)
    refine lv_aload_n hx hb dM_store_47 rfl (lv_at hl 2 rfl) ?_
    refine va_get (D := (dC, dI)) (ci := 1) (v := .ref q4) (C := RM) (T := TM) (N := 4) hx hb hts iM hown hK hP 0 rfl rfl 3 (by decide) (hts _ tw_217) (fun _ h9 => h9) rfl dM_store_48 ?_
    refine lv_iload hx hb dM_store_51 (lv_at hl 1 rfl) ?_
    refine kk_mrg (pc' := 92) (ls' := ls) (rest' := [.int (2 : Int32), .ref q4]) (x := (if v_12 = 0 then (b (((6 : Int32) * a1) + (2 : Int32)).toNatClampNeg) else (b (((((6 : Int32) * a2) + (2 : Int32)) + (5 : Int32)) - (a3 - a3 / (8 : Int32) * (8 : Int32))).toNatClampNeg))) (fun hk_13 => ?_) (fun v_15 ev_15 => ?_)
    · refine lv_iload hx hb dM_store_53 (lv_at hl 0 rfl) ?_
      refine lv_if_eq (tgt := 80) hx hb dM_store_55 (by decide) (fun c_14 => ?_) (fun c_14 => ?_)
      · refine lv_aload_n hx hb dM_store_80 rfl (lv_at hl 2 rfl) ?_
        refine va_get (D := (dC, dI)) (ci := 1) (v := .ref q2) (C := RM) (T := TM) (N := 4) hx hb hts iM hown hK hP 0 rfl rfl 1 (by decide) (hts _ tw_215) (fun _ h9 => h9) rfl dM_store_81 ?_
        refine lv_bipush (v := (6 : Int32)) hx hb dM_store_84 (by decide) ?_
        refine lv_iload_n hx hb dM_store_86 rfl (lv_at hl 3 rfl) ?_
        refine lv_imul hx hb dM_store_87 ?_
        refine lv_iload hx hb dM_store_88 (lv_at hl 1 rfl) ?_
        refine lv_iadd hx hb dM_store_90 ?_
        refine va_iald hx hb hK hP 2 1 rfl rfl (in_96 (may_1 c_1) (by unfold vp_in; decide)) dM_store_91 ?_
        exact hk_13 _ (by rw [if_pos c_14])
      · refine lv_aload_n hx hb dM_store_58 rfl (lv_at hl 2 rfl) ?_
        refine va_get (D := (dC, dI)) (ci := 1) (v := .ref q2) (C := RM) (T := TM) (N := 4) hx hb hts iM hown hK hP 0 rfl rfl 1 (by decide) (hts _ tw_215) (fun _ h9 => h9) rfl dM_store_59 ?_
        refine lv_bipush (v := (6 : Int32)) hx hb dM_store_62 (by decide) ?_
        refine lv_iload_n hx hb dM_store_64 rfl (lv_at hl 4 rfl) ?_
        refine lv_imul hx hb dM_store_65 ?_
        refine lv_iload hx hb dM_store_66 (lv_at hl 1 rfl) ?_
        refine lv_iadd hx hb dM_store_68 ?_
        refine lv_iconst (v := (5 : Int32)) hx hb dM_store_69 (by decide) ?_
        refine lv_iadd hx hb dM_store_70 ?_
        refine lv_iload_n hx hb dM_store_71 rfl (lv_at hl 5 rfl) ?_
        refine lv_bipush (v := (8 : Int32)) hx hb dM_store_72 (by decide) ?_
        refine lv_irem hx hb dM_store_74 (by decide) ?_
        refine lv_isub hx hb dM_store_75 ?_
        refine va_iald hx hb hK hP 2 1 rfl rfl (in_96S c_1 (by unfold vp_in; decide) ev_12 c_14) dM_store_76 ?_
        refine lv_goto (tgt := 92) hx hb dM_store_77 (by decide) ?_
        exact hk_13 _ (by rw [if_neg c_14])
    refine va_iast hx hb hK hP hD hS 4 3 rfl rfl (by unfold vp_in; decide) dM_store_92 (fun H locs hP hD hS => ?_)
    have hP : va_P (dC, dI) vwCl (wsM h0 q1 q2 q3 q4 k1 k2 k3 k4 g b t (upd (upd w 1 v_8) 2 v_15)) H := hP
    have hD : va_D A (wsM h0 q1 q2 q3 q4 k1 k2 k3 k4 g b t (upd (upd w 1 v_8) 2 v_15)) := hD
    refine lv_iinc (v := (3 : Int32)) (lv' := [(4, .int (3 : Int32)), (5, .int v_12), (0, .ref h0), (1, .int a1), (2, .int a2), (3, .int a3)]) hx hb dM_store_93 hl (k := 1) rfl (by decide) (by decide) rfl (fun ls hl => ?_)
    refine lv_goto (tgt := 15) hx hb dM_store_96 (by decide) ?_
    refine lv_iload hx hb dM_store_15 (lv_at hl 0 rfl) ?_
    refine lv_bipush (v := (6 : Int32)) hx hb dM_store_17 (by decide) ?_
    refine lv_icmp_ge (tgt := 99) hx hb dM_store_19 (by decide) (fun c0 => absurd c0 (by decide)) (fun _ => ?_)
    refine lv_iload hx hb dM_store_22 (lv_at hl 0 rfl) ?_
    refine lv_iload_n hx hb dM_store_24 rfl (lv_at hl 5 rfl) ?_
    refine kk_callP (va_runS (As := [.int a3]) (rest := [.int (3 : Int32)]) ⟨hx, hb, hml, hown, hts⟩ (c_M_first l a3) (va_cwS 1 hts (gS tw_262 tw_263 tw_2 tw_264) rfl rfl rfl (by decide +kernel) ⟨Nat.le_of_ble_eq_true rfl, Nat.le_of_ble_eq_true rfl⟩) ⟨fun _ _ _ _ q => q, fun _ _ _ => ⟨rfl, trivial⟩⟩ rfl rfl hl.1 rfl (lv_room (Nat.le_of_ble_eq_true rfl)) dM_store_25 ⟨Nat.le_of_ble_eq_true rfl, Nat.le_of_ble_eq_true rfl⟩) hS hP (fun H locs hS hP => ?_)
    refine kk_mrg (pc' := 45) (ls' := ls) (rest' := []) (x := (if (3 : Int32) < (f_M_first a3) then (0 : Int32) else (if (a3 - a3 / (8 : Int32) * (8 : Int32)) < (3 : Int32) then (0 : Int32) else (1 : Int32)))) (fun hk_16 => ?_) (fun v_19 ev_19 => ?_)
    · refine lv_icmp_lt (tgt := 44) hx hb dM_store_28 (by decide) (fun c_17 => ?_) (fun c_17 => ?_)
      · refine lv_iconst (v := (0 : Int32)) hx hb dM_store_44 (by decide) ?_
        exact hk_16 _ (by rw [if_pos c_17])
      · refine lv_iload hx hb dM_store_31 (lv_at hl 0 rfl) ?_
        refine lv_iload_n hx hb dM_store_33 rfl (lv_at hl 5 rfl) ?_
        refine lv_bipush (v := (8 : Int32)) hx hb dM_store_34 (by decide) ?_
        refine lv_irem hx hb dM_store_36 (by decide) ?_
        refine lv_icmp_gt (tgt := 44) hx hb dM_store_37 (by decide) (fun c_18 => ?_) (fun c_18 => ?_)
        · refine lv_iconst (v := (0 : Int32)) hx hb dM_store_44 (by decide) ?_
          exact hk_16 _ (by rw [if_neg c_17, if_pos c_18])
        · refine lv_iconst (v := (1 : Int32)) hx hb dM_store_40 (by decide) ?_
          refine lv_goto (tgt := 45) hx hb dM_store_41 (by decide) ?_
          exact hk_16 _ (by rw [if_neg c_17, if_neg c_18])
    refine lv_istore (lv' := [(5, .int v_19), (4, .int (3 : Int32)), (0, .ref h0), (1, .int a1), (2, .int a2), (3, .int a3)]) hx hb dM_store_45 hl (by decide) rfl (fun ls hl => ?_)
    refine lv_aload_n hx hb dM_store_47 rfl (lv_at hl 2 rfl) ?_
    refine va_get (D := (dC, dI)) (ci := 1) (v := .ref q4) (C := RM) (T := TM) (N := 4) hx hb hts iM hown hK hP 0 rfl rfl 3 (by decide) (hts _ tw_217) (fun _ h9 => h9) rfl dM_store_48 ?_
    refine lv_iload hx hb dM_store_51 (lv_at hl 1 rfl) ?_
    refine kk_mrg (pc' := 92) (ls' := ls) (rest' := [.int (3 : Int32), .ref q4]) (x := (if v_19 = 0 then (b (((6 : Int32) * a1) + (3 : Int32)).toNatClampNeg) else (b (((((6 : Int32) * a2) + (3 : Int32)) + (5 : Int32)) - (a3 - a3 / (8 : Int32) * (8 : Int32))).toNatClampNeg))) (fun hk_20 => ?_) (fun v_22 ev_22 => ?_)
    · refine lv_iload hx hb dM_store_53 (lv_at hl 0 rfl) ?_
      refine lv_if_eq (tgt := 80) hx hb dM_store_55 (by decide) (fun c_21 => ?_) (fun c_21 => ?_)
      · refine lv_aload_n hx hb dM_store_80 rfl (lv_at hl 2 rfl) ?_
        refine va_get (D := (dC, dI)) (ci := 1) (v := .ref q2) (C := RM) (T := TM) (N := 4) hx hb hts iM hown hK hP 0 rfl rfl 1 (by decide) (hts _ tw_215) (fun _ h9 => h9) rfl dM_store_81 ?_
        refine lv_bipush (v := (6 : Int32)) hx hb dM_store_84 (by decide) ?_
        refine lv_iload_n hx hb dM_store_86 rfl (lv_at hl 3 rfl) ?_
        refine lv_imul hx hb dM_store_87 ?_
        refine lv_iload hx hb dM_store_88 (lv_at hl 1 rfl) ?_
        refine lv_iadd hx hb dM_store_90 ?_
        refine va_iald hx hb hK hP 2 1 rfl rfl (in_96 (may_1 c_1) (by unfold vp_in; decide)) dM_store_91 ?_
        exact hk_20 _ (by rw [if_pos c_21])
      · refine lv_aload_n hx hb dM_store_58 rfl (lv_at hl 2 rfl) ?_
        refine va_get (D := (dC, dI)) (ci := 1) (v := .ref q2) (C := RM) (T := TM) (N := 4) hx hb hts iM hown hK hP 0 rfl rfl 1 (by decide) (hts _ tw_215) (fun _ h9 => h9) rfl dM_store_59 ?_
        refine lv_bipush (v := (6 : Int32)) hx hb dM_store_62 (by decide) ?_
        refine lv_iload_n hx hb dM_store_64 rfl (lv_at hl 4 rfl) ?_
        refine lv_imul hx hb dM_store_65 ?_
        refine lv_iload hx hb dM_store_66 (lv_at hl 1 rfl) ?_
        refine lv_iadd hx hb dM_store_68 ?_
        refine lv_iconst (v := (5 : Int32)) hx hb dM_store_69 (by decide) ?_
        refine lv_iadd hx hb dM_store_70 ?_
        refine lv_iload_n hx hb dM_store_71 rfl (lv_at hl 5 rfl) ?_
        refine lv_bipush (v := (8 : Int32)) hx hb dM_store_72 (by decide) ?_
        refine lv_irem hx hb dM_store_74 (by decide) ?_
        refine lv_isub hx hb dM_store_75 ?_
        refine va_iald hx hb hK hP 2 1 rfl rfl (in_96S c_1 (by unfold vp_in; decide) ev_19 c_21) dM_store_76 ?_
        refine lv_goto (tgt := 92) hx hb dM_store_77 (by decide) ?_
        exact hk_20 _ (by rw [if_neg c_21])
    refine va_iast hx hb hK hP hD hS 4 3 rfl rfl (by unfold vp_in; decide) dM_store_92 (fun H locs hP hD hS => ?_)
    have hP : va_P (dC, dI) vwCl (wsM h0 q1 q2 q3 q4 k1 k2 k3 k4 g b t (upd (upd (upd w 1 v_8) 2 v_15) 3 v_22)) H := hP
    have hD : va_D A (wsM h0 q1 q2 q3 q4 k1 k2 k3 k4 g b t (upd (upd (upd w 1 v_8) 2 v_15) 3 v_22)) := hD
    refine lv_iinc (v := (4 : Int32)) (lv' := [(4, .int (4 : Int32)), (5, .int v_19), (0, .ref h0), (1, .int a1), (2, .int a2), (3, .int a3)]) hx hb dM_store_93 hl (k := 1) rfl (by decide) (by decide) rfl (fun ls hl => ?_)
    refine lv_goto (tgt := 15) hx hb dM_store_96 (by decide) ?_
    refine lv_iload hx hb dM_store_15 (lv_at hl 0 rfl) ?_
    refine lv_bipush (v := (6 : Int32)) hx hb dM_store_17 (by decide) ?_
    refine lv_icmp_ge (tgt := 99) hx hb dM_store_19 (by decide) (fun c0 => absurd c0 (by decide)) (fun _ => ?_)
    refine lv_iload hx hb dM_store_22 (lv_at hl 0 rfl) ?_
    refine lv_iload_n hx hb dM_store_24 rfl (lv_at hl 5 rfl) ?_
    refine kk_callP (va_runS (As := [.int a3]) (rest := [.int (4 : Int32)]) ⟨hx, hb, hml, hown, hts⟩ (c_M_first l a3) (va_cwS 1 hts (gS tw_262 tw_263 tw_2 tw_264) rfl rfl rfl (by decide +kernel) ⟨Nat.le_of_ble_eq_true rfl, Nat.le_of_ble_eq_true rfl⟩) ⟨fun _ _ _ _ q => q, fun _ _ _ => ⟨rfl, trivial⟩⟩ rfl rfl hl.1 rfl (lv_room (Nat.le_of_ble_eq_true rfl)) dM_store_25 ⟨Nat.le_of_ble_eq_true rfl, Nat.le_of_ble_eq_true rfl⟩) hS hP (fun H locs hS hP => ?_)
    refine kk_mrg (pc' := 45) (ls' := ls) (rest' := []) (x := (if (4 : Int32) < (f_M_first a3) then (0 : Int32) else (if (a3 - a3 / (8 : Int32) * (8 : Int32)) < (4 : Int32) then (0 : Int32) else (1 : Int32)))) (fun hk_23 => ?_) (fun v_26 ev_26 => ?_)
    · refine lv_icmp_lt (tgt := 44) hx hb dM_store_28 (by decide) (fun c_24 => ?_) (fun c_24 => ?_)
      · refine lv_iconst (v := (0 : Int32)) hx hb dM_store_44 (by decide) ?_
        exact hk_23 _ (by rw [if_pos c_24])
      · refine lv_iload hx hb dM_store_31 (lv_at hl 0 rfl) ?_
        refine lv_iload_n hx hb dM_store_33 rfl (lv_at hl 5 rfl) ?_
        refine lv_bipush (v := (8 : Int32)) hx hb dM_store_34 (by decide) ?_
        refine lv_irem hx hb dM_store_36 (by decide) ?_
        refine lv_icmp_gt (tgt := 44) hx hb dM_store_37 (by decide) (fun c_25 => ?_) (fun c_25 => ?_)
        · refine lv_iconst (v := (0 : Int32)) hx hb dM_store_44 (by decide) ?_
          exact hk_23 _ (by rw [if_neg c_24, if_pos c_25])
        · refine lv_iconst (v := (1 : Int32)) hx hb dM_store_40 (by decide) ?_
          refine lv_goto (tgt := 45) hx hb dM_store_41 (by decide) ?_
          exact hk_23 _ (by rw [if_neg c_24, if_neg c_25])
    refine lv_istore (lv' := [(5, .int v_26), (4, .int (4 : Int32)), (0, .ref h0), (1, .int a1), (2, .int a2), (3, .int a3)]) hx hb dM_store_45 hl (by decide) rfl (fun ls hl => ?_)
    refine lv_aload_n hx hb dM_store_47 rfl (lv_at hl 2 rfl) ?_
    refine va_get (D := (dC, dI)) (ci := 1) (v := .ref q4) (C := RM) (T := TM) (N := 4) hx hb hts iM hown hK hP 0 rfl rfl 3 (by decide) (hts _ tw_217) (fun _ h9 => h9) rfl dM_store_48 ?_
    refine lv_iload hx hb dM_store_51 (lv_at hl 1 rfl) ?_
    refine kk_mrg (pc' := 92) (ls' := ls) (rest' := [.int (4 : Int32), .ref q4]) (x := (if v_26 = 0 then (b (((6 : Int32) * a1) + (4 : Int32)).toNatClampNeg) else (b (((((6 : Int32) * a2) + (4 : Int32)) + (5 : Int32)) - (a3 - a3 / (8 : Int32) * (8 : Int32))).toNatClampNeg))) (fun hk_27 => ?_) (fun v_29 ev_29 => ?_)
    · refine lv_iload hx hb dM_store_53 (lv_at hl 0 rfl) ?_
      refine lv_if_eq (tgt := 80) hx hb dM_store_55 (by decide) (fun c_28 => ?_) (fun c_28 => ?_)
      · refine lv_aload_n hx hb dM_store_80 rfl (lv_at hl 2 rfl) ?_
        refine va_get (D := (dC, dI)) (ci := 1) (v := .ref q2) (C := RM) (T := TM) (N := 4) hx hb hts iM hown hK hP 0 rfl rfl 1 (by decide) (hts _ tw_215) (fun _ h9 => h9) rfl dM_store_81 ?_
        refine lv_bipush (v := (6 : Int32)) hx hb dM_store_84 (by decide) ?_
        refine lv_iload_n hx hb dM_store_86 rfl (lv_at hl 3 rfl) ?_
        refine lv_imul hx hb dM_store_87 ?_
        refine lv_iload hx hb dM_store_88 (lv_at hl 1 rfl) ?_
        refine lv_iadd hx hb dM_store_90 ?_
        refine va_iald hx hb hK hP 2 1 rfl rfl (in_96 (may_1 c_1) (by unfold vp_in; decide)) dM_store_91 ?_
        exact hk_27 _ (by rw [if_pos c_28])
      · refine lv_aload_n hx hb dM_store_58 rfl (lv_at hl 2 rfl) ?_
        refine va_get (D := (dC, dI)) (ci := 1) (v := .ref q2) (C := RM) (T := TM) (N := 4) hx hb hts iM hown hK hP 0 rfl rfl 1 (by decide) (hts _ tw_215) (fun _ h9 => h9) rfl dM_store_59 ?_
        refine lv_bipush (v := (6 : Int32)) hx hb dM_store_62 (by decide) ?_
        refine lv_iload_n hx hb dM_store_64 rfl (lv_at hl 4 rfl) ?_
        refine lv_imul hx hb dM_store_65 ?_
        refine lv_iload hx hb dM_store_66 (lv_at hl 1 rfl) ?_
        refine lv_iadd hx hb dM_store_68 ?_
        refine lv_iconst (v := (5 : Int32)) hx hb dM_store_69 (by decide) ?_
        refine lv_iadd hx hb dM_store_70 ?_
        refine lv_iload_n hx hb dM_store_71 rfl (lv_at hl 5 rfl) ?_
        refine lv_bipush (v := (8 : Int32)) hx hb dM_store_72 (by decide) ?_
        refine lv_irem hx hb dM_store_74 (by decide) ?_
        refine lv_isub hx hb dM_store_75 ?_
        refine va_iald hx hb hK hP 2 1 rfl rfl (in_96S c_1 (by unfold vp_in; decide) ev_26 c_28) dM_store_76 ?_
        refine lv_goto (tgt := 92) hx hb dM_store_77 (by decide) ?_
        exact hk_27 _ (by rw [if_neg c_28])
    refine va_iast hx hb hK hP hD hS 4 3 rfl rfl (by unfold vp_in; decide) dM_store_92 (fun H locs hP hD hS => ?_)
    have hP : va_P (dC, dI) vwCl (wsM h0 q1 q2 q3 q4 k1 k2 k3 k4 g b t (upd (upd (upd (upd w 1 v_8) 2 v_15) 3 v_22) 4 v_29)) H := hP
    have hD : va_D A (wsM h0 q1 q2 q3 q4 k1 k2 k3 k4 g b t (upd (upd (upd (upd w 1 v_8) 2 v_15) 3 v_22) 4 v_29)) := hD
    refine lv_iinc (v := (5 : Int32)) (lv' := [(4, .int (5 : Int32)), (5, .int v_26), (0, .ref h0), (1, .int a1), (2, .int a2), (3, .int a3)]) hx hb dM_store_93 hl (k := 1) rfl (by decide) (by decide) rfl (fun ls hl => ?_)
    refine lv_goto (tgt := 15) hx hb dM_store_96 (by decide) ?_
    refine lv_iload hx hb dM_store_15 (lv_at hl 0 rfl) ?_
    refine lv_bipush (v := (6 : Int32)) hx hb dM_store_17 (by decide) ?_
    refine lv_icmp_ge (tgt := 99) hx hb dM_store_19 (by decide) (fun c0 => absurd c0 (by decide)) (fun _ => ?_)
    refine lv_iload hx hb dM_store_22 (lv_at hl 0 rfl) ?_
    refine lv_iload_n hx hb dM_store_24 rfl (lv_at hl 5 rfl) ?_
    refine kk_callP (va_runS (As := [.int a3]) (rest := [.int (5 : Int32)]) ⟨hx, hb, hml, hown, hts⟩ (c_M_first l a3) (va_cwS 1 hts (gS tw_262 tw_263 tw_2 tw_264) rfl rfl rfl (by decide +kernel) ⟨Nat.le_of_ble_eq_true rfl, Nat.le_of_ble_eq_true rfl⟩) ⟨fun _ _ _ _ q => q, fun _ _ _ => ⟨rfl, trivial⟩⟩ rfl rfl hl.1 rfl (lv_room (Nat.le_of_ble_eq_true rfl)) dM_store_25 ⟨Nat.le_of_ble_eq_true rfl, Nat.le_of_ble_eq_true rfl⟩) hS hP (fun H locs hS hP => ?_)
    refine kk_mrg (pc' := 45) (ls' := ls) (rest' := []) (x := (if (5 : Int32) < (f_M_first a3) then (0 : Int32) else (if (a3 - a3 / (8 : Int32) * (8 : Int32)) < (5 : Int32) then (0 : Int32) else (1 : Int32)))) (fun hk_30 => ?_) (fun v_33 ev_33 => ?_)
    · refine lv_icmp_lt (tgt := 44) hx hb dM_store_28 (by decide) (fun c_31 => ?_) (fun c_31 => ?_)
      · refine lv_iconst (v := (0 : Int32)) hx hb dM_store_44 (by decide) ?_
        exact hk_30 _ (by rw [if_pos c_31])
      · refine lv_iload hx hb dM_store_31 (lv_at hl 0 rfl) ?_
        refine lv_iload_n hx hb dM_store_33 rfl (lv_at hl 5 rfl) ?_
        refine lv_bipush (v := (8 : Int32)) hx hb dM_store_34 (by decide) ?_
        refine lv_irem hx hb dM_store_36 (by decide) ?_
        refine lv_icmp_gt (tgt := 44) hx hb dM_store_37 (by decide) (fun c_32 => ?_) (fun c_32 => ?_)
        · refine lv_iconst (v := (0 : Int32)) hx hb dM_store_44 (by decide) ?_
          exact hk_30 _ (by rw [if_neg c_31, if_pos c_32])
        · refine lv_iconst (v := (1 : Int32)) hx hb dM_store_40 (by decide) ?_
          refine lv_goto (tgt := 45) hx hb dM_store_41 (by decide) ?_
          exact hk_30 _ (by rw [if_neg c_31, if_neg c_32])
    refine lv_istore (lv' := [(5, .int v_33), (4, .int (5 : Int32)), (0, .ref h0), (1, .int a1), (2, .int a2), (3, .int a3)]) hx hb dM_store_45 hl (by decide) rfl (fun ls hl => ?_)
    refine lv_aload_n hx hb dM_store_47 rfl (lv_at hl 2 rfl) ?_
    refine va_get (D := (dC, dI)) (ci := 1) (v := .ref q4) (C := RM) (T := TM) (N := 4) hx hb hts iM hown hK hP 0 rfl rfl 3 (by decide) (hts _ tw_217) (fun _ h9 => h9) rfl dM_store_48 ?_
    refine lv_iload hx hb dM_store_51 (lv_at hl 1 rfl) ?_
    refine kk_mrg (pc' := 92) (ls' := ls) (rest' := [.int (5 : Int32), .ref q4]) (x := (if v_33 = 0 then (b (((6 : Int32) * a1) + (5 : Int32)).toNatClampNeg) else (b (((((6 : Int32) * a2) + (5 : Int32)) + (5 : Int32)) - (a3 - a3 / (8 : Int32) * (8 : Int32))).toNatClampNeg))) (fun hk_34 => ?_) (fun v_36 ev_36 => ?_)
    · refine lv_iload hx hb dM_store_53 (lv_at hl 0 rfl) ?_
      refine lv_if_eq (tgt := 80) hx hb dM_store_55 (by decide) (fun c_35 => ?_) (fun c_35 => ?_)
      · refine lv_aload_n hx hb dM_store_80 rfl (lv_at hl 2 rfl) ?_
        refine va_get (D := (dC, dI)) (ci := 1) (v := .ref q2) (C := RM) (T := TM) (N := 4) hx hb hts iM hown hK hP 0 rfl rfl 1 (by decide) (hts _ tw_215) (fun _ h9 => h9) rfl dM_store_81 ?_
        refine lv_bipush (v := (6 : Int32)) hx hb dM_store_84 (by decide) ?_
        refine lv_iload_n hx hb dM_store_86 rfl (lv_at hl 3 rfl) ?_
        refine lv_imul hx hb dM_store_87 ?_
        refine lv_iload hx hb dM_store_88 (lv_at hl 1 rfl) ?_
        refine lv_iadd hx hb dM_store_90 ?_
        refine va_iald hx hb hK hP 2 1 rfl rfl (in_96 (may_1 c_1) (by unfold vp_in; decide)) dM_store_91 ?_
        exact hk_34 _ (by rw [if_pos c_35])
      · refine lv_aload_n hx hb dM_store_58 rfl (lv_at hl 2 rfl) ?_
        refine va_get (D := (dC, dI)) (ci := 1) (v := .ref q2) (C := RM) (T := TM) (N := 4) hx hb hts iM hown hK hP 0 rfl rfl 1 (by decide) (hts _ tw_215) (fun _ h9 => h9) rfl dM_store_59 ?_
        refine lv_bipush (v := (6 : Int32)) hx hb dM_store_62 (by decide) ?_
        refine lv_iload_n hx hb dM_store_64 rfl (lv_at hl 4 rfl) ?_
        refine lv_imul hx hb dM_store_65 ?_
        refine lv_iload hx hb dM_store_66 (lv_at hl 1 rfl) ?_
        refine lv_iadd hx hb dM_store_68 ?_
        refine lv_iconst (v := (5 : Int32)) hx hb dM_store_69 (by decide) ?_
        refine lv_iadd hx hb dM_store_70 ?_
        refine lv_iload_n hx hb dM_store_71 rfl (lv_at hl 5 rfl) ?_
        refine lv_bipush (v := (8 : Int32)) hx hb dM_store_72 (by decide) ?_
        refine lv_irem hx hb dM_store_74 (by decide) ?_
        refine lv_isub hx hb dM_store_75 ?_
        refine va_iald hx hb hK hP 2 1 rfl rfl (in_96S c_1 (by unfold vp_in; decide) ev_33 c_35) dM_store_76 ?_
        refine lv_goto (tgt := 92) hx hb dM_store_77 (by decide) ?_
        exact hk_34 _ (by rw [if_neg c_35])
    refine va_iast hx hb hK hP hD hS 4 3 rfl rfl (by unfold vp_in; decide) dM_store_92 (fun H locs hP hD hS => ?_)
    have hP : va_P (dC, dI) vwCl (wsM h0 q1 q2 q3 q4 k1 k2 k3 k4 g b t (upd (upd (upd (upd (upd w 1 v_8) 2 v_15) 3 v_22) 4 v_29) 5 v_36)) H := hP
    have hD : va_D A (wsM h0 q1 q2 q3 q4 k1 k2 k3 k4 g b t (upd (upd (upd (upd (upd w 1 v_8) 2 v_15) 3 v_22) 4 v_29) 5 v_36)) := hD
    refine lv_iinc (v := (6 : Int32)) (lv' := [(4, .int (6 : Int32)), (5, .int v_33), (0, .ref h0), (1, .int a1), (2, .int a2), (3, .int a3)]) hx hb dM_store_93 hl (k := 1) rfl (by decide) (by decide) rfl (fun ls hl => ?_)
    refine lv_goto (tgt := 15) hx hb dM_store_96 (by decide) ?_
    refine lv_iload hx hb dM_store_15 (lv_at hl 0 rfl) ?_
    refine lv_bipush (v := (6 : Int32)) hx hb dM_store_17 (by decide) ?_
    refine lv_icmp_ge (tgt := 99) hx hb dM_store_19 (by decide) (fun _ => ?_) (fun c0 => absurd (by decide) c0)
    refine lv_iconst (v := (1 : Int32)) hx hb dM_store_99 (by decide) ?_
    refine lv_istore (lv' := [(4, .int (1 : Int32)), (5, .int v_33), (0, .ref h0), (1, .int a1), (2, .int a2), (3, .int a3)]) hx hb dM_store_100 hl (by decide) rfl (fun ls hl => ?_)
    refine lv_iload hx hb dM_store_102 (lv_at hl 0 rfl) ?_
    refine lv_bipush (v := (6 : Int32)) hx hb dM_store_104 (by decide) ?_
    refine lv_icmp_ge (tgt := 134) hx hb dM_store_106 (by decide) (fun c0 => absurd c0 (by decide)) (fun _ => ?_)
    refine lv_aload_n hx hb dM_store_109 rfl (lv_at hl 2 rfl) ?_
    refine va_get (D := (dC, dI)) (ci := 1) (v := .ref q2) (C := RM) (T := TM) (N := 4) hx hb hts iM hown hK hP 0 rfl rfl 1 (by decide) (hts _ tw_215) (fun _ h9 => h9) rfl dM_store_110 ?_
    refine lv_bipush (v := (6 : Int32)) hx hb dM_store_113 (by decide) ?_
    refine lv_iload_n hx hb dM_store_115 rfl (lv_at hl 3 rfl) ?_
    refine lv_imul hx hb dM_store_116 ?_
    refine lv_iload hx hb dM_store_117 (lv_at hl 0 rfl) ?_
    refine lv_iadd hx hb dM_store_119 ?_
    refine lv_aload_n hx hb dM_store_120 rfl (lv_at hl 2 rfl) ?_
    refine va_get (D := (dC, dI)) (ci := 1) (v := .ref q4) (C := RM) (T := TM) (N := 4) hx hb hts iM hown hK hP 0 rfl rfl 3 (by decide) (hts _ tw_217) (fun _ h9 => h9) rfl dM_store_121 ?_
    refine lv_iload hx hb dM_store_124 (lv_at hl 0 rfl) ?_
    refine va_iald hx hb hK hP 4 3 rfl rfl (by unfold vp_in; decide) dM_store_126 ?_
    refine kk_top (y := v_8) (by first | rfl | (simp [upd]; done)) ?_
    refine va_iast hx hb hK hP hD hS 2 1 rfl rfl (in_96 (may_1 c_1) (by unfold vp_in; decide)) dM_store_127 (fun H locs hP hD hS => ?_)
    have hP : va_P (dC, dI) vwCl (wsM h0 q1 q2 q3 q4 k1 k2 k3 k4 g (upd b (((6 : Int32) * a1) + (1 : Int32)).toNatClampNeg v_8) t (upd (upd (upd (upd (upd w 1 v_8) 2 v_15) 3 v_22) 4 v_29) 5 v_36)) H := hP
    have hD : va_D A (wsM h0 q1 q2 q3 q4 k1 k2 k3 k4 g (upd b (((6 : Int32) * a1) + (1 : Int32)).toNatClampNeg v_8) t (upd (upd (upd (upd (upd w 1 v_8) 2 v_15) 3 v_22) 4 v_29) 5 v_36)) := hD
    refine lv_iinc (v := (2 : Int32)) (lv' := [(4, .int (2 : Int32)), (5, .int v_33), (0, .ref h0), (1, .int a1), (2, .int a2), (3, .int a3)]) hx hb dM_store_128 hl (k := 0) rfl (by decide) (by decide) rfl (fun ls hl => ?_)
    refine lv_goto (tgt := 102) hx hb dM_store_131 (by decide) ?_
    refine lv_iload hx hb dM_store_102 (lv_at hl 0 rfl) ?_
    refine lv_bipush (v := (6 : Int32)) hx hb dM_store_104 (by decide) ?_
    refine lv_icmp_ge (tgt := 134) hx hb dM_store_106 (by decide) (fun c0 => absurd c0 (by decide)) (fun _ => ?_)
    refine lv_aload_n hx hb dM_store_109 rfl (lv_at hl 2 rfl) ?_
    refine va_get (D := (dC, dI)) (ci := 1) (v := .ref q2) (C := RM) (T := TM) (N := 4) hx hb hts iM hown hK hP 0 rfl rfl 1 (by decide) (hts _ tw_215) (fun _ h9 => h9) rfl dM_store_110 ?_
    refine lv_bipush (v := (6 : Int32)) hx hb dM_store_113 (by decide) ?_
    refine lv_iload_n hx hb dM_store_115 rfl (lv_at hl 3 rfl) ?_
    refine lv_imul hx hb dM_store_116 ?_
    refine lv_iload hx hb dM_store_117 (lv_at hl 0 rfl) ?_
    refine lv_iadd hx hb dM_store_119 ?_
    refine lv_aload_n hx hb dM_store_120 rfl (lv_at hl 2 rfl) ?_
    refine va_get (D := (dC, dI)) (ci := 1) (v := .ref q4) (C := RM) (T := TM) (N := 4) hx hb hts iM hown hK hP 0 rfl rfl 3 (by decide) (hts _ tw_217) (fun _ h9 => h9) rfl dM_store_121 ?_
    refine lv_iload hx hb dM_store_124 (lv_at hl 0 rfl) ?_
    refine va_iald hx hb hK hP 4 3 rfl rfl (by unfold vp_in; decide) dM_store_126 ?_
    refine kk_top (y := v_15) (by first | rfl | (simp [upd]; done)) ?_
    refine va_iast hx hb hK hP hD hS 2 1 rfl rfl (in_96 (may_1 c_1) (by unfold vp_in; decide)) dM_store_127 (fun H locs hP hD hS => ?_)
    have hP : va_P (dC, dI) vwCl (wsM h0 q1 q2 q3 q4 k1 k2 k3 k4 g (upd (upd b (((6 : Int32) * a1) + (1 : Int32)).toNatClampNeg v_8) (((6 : Int32) * a1) + (2 : Int32)).toNatClampNeg v_15) t (upd (upd (upd (upd (upd w 1 v_8) 2 v_15) 3 v_22) 4 v_29) 5 v_36)) H := hP
    have hD : va_D A (wsM h0 q1 q2 q3 q4 k1 k2 k3 k4 g (upd (upd b (((6 : Int32) * a1) + (1 : Int32)).toNatClampNeg v_8) (((6 : Int32) * a1) + (2 : Int32)).toNatClampNeg v_15) t (upd (upd (upd (upd (upd w 1 v_8) 2 v_15) 3 v_22) 4 v_29) 5 v_36)) := hD
    refine lv_iinc (v := (3 : Int32)) (lv' := [(4, .int (3 : Int32)), (5, .int v_33), (0, .ref h0), (1, .int a1), (2, .int a2), (3, .int a3)]) hx hb dM_store_128 hl (k := 0) rfl (by decide) (by decide) rfl (fun ls hl => ?_)
    refine lv_goto (tgt := 102) hx hb dM_store_131 (by decide) ?_
    refine lv_iload hx hb dM_store_102 (lv_at hl 0 rfl) ?_
    refine lv_bipush (v := (6 : Int32)) hx hb dM_store_104 (by decide) ?_
    refine lv_icmp_ge (tgt := 134) hx hb dM_store_106 (by decide) (fun c0 => absurd c0 (by decide)) (fun _ => ?_)
    refine lv_aload_n hx hb dM_store_109 rfl (lv_at hl 2 rfl) ?_
    refine va_get (D := (dC, dI)) (ci := 1) (v := .ref q2) (C := RM) (T := TM) (N := 4) hx hb hts iM hown hK hP 0 rfl rfl 1 (by decide) (hts _ tw_215) (fun _ h9 => h9) rfl dM_store_110 ?_
    refine lv_bipush (v := (6 : Int32)) hx hb dM_store_113 (by decide) ?_
    refine lv_iload_n hx hb dM_store_115 rfl (lv_at hl 3 rfl) ?_
    refine lv_imul hx hb dM_store_116 ?_
    refine lv_iload hx hb dM_store_117 (lv_at hl 0 rfl) ?_
    refine lv_iadd hx hb dM_store_119 ?_
    refine lv_aload_n hx hb dM_store_120 rfl (lv_at hl 2 rfl) ?_
    refine va_get (D := (dC, dI)) (ci := 1) (v := .ref q4) (C := RM) (T := TM) (N := 4) hx hb hts iM hown hK hP 0 rfl rfl 3 (by decide) (hts _ tw_217) (fun _ h9 => h9) rfl dM_store_121 ?_
    refine lv_iload hx hb dM_store_124 (lv_at hl 0 rfl) ?_
    refine va_iald hx hb hK hP 4 3 rfl rfl (by unfold vp_in; decide) dM_store_126 ?_
    refine kk_top (y := v_22) (by first | rfl | (simp [upd]; done)) ?_
    refine va_iast hx hb hK hP hD hS 2 1 rfl rfl (in_96 (may_1 c_1) (by unfold vp_in; decide)) dM_store_127 (fun H locs hP hD hS => ?_)
    have hP : va_P (dC, dI) vwCl (wsM h0 q1 q2 q3 q4 k1 k2 k3 k4 g (upd (upd (upd b (((6 : Int32) * a1) + (1 : Int32)).toNatClampNeg v_8) (((6 : Int32) * a1) + (2 : Int32)).toNatClampNeg v_15) (((6 : Int32) * a1) + (3 : Int32)).toNatClampNeg v_22) t (upd (upd (upd (upd (upd w 1 v_8) 2 v_15) 3 v_22) 4 v_29) 5 v_36)) H := hP
    have hD : va_D A (wsM h0 q1 q2 q3 q4 k1 k2 k3 k4 g (upd (upd (upd b (((6 : Int32) * a1) + (1 : Int32)).toNatClampNeg v_8) (((6 : Int32) * a1) + (2 : Int32)).toNatClampNeg v_15) (((6 : Int32) * a1) + (3 : Int32)).toNatClampNeg v_22) t (upd (upd (upd (upd (upd w 1 v_8) 2 v_15) 3 v_22) 4 v_29) 5 v_36)) := hD
    refine lv_iinc (v := (4 : Int32)) (lv' := [(4, .int (4 : Int32)), (5, .int v_33), (0, .ref h0), (1, .int a1), (2, .int a2), (3, .int a3)]) hx hb dM_store_128 hl (k := 0) rfl (by decide) (by decide) rfl (fun ls hl => ?_)
    refine lv_goto (tgt := 102) hx hb dM_store_131 (by decide) ?_
    refine lv_iload hx hb dM_store_102 (lv_at hl 0 rfl) ?_
    refine lv_bipush (v := (6 : Int32)) hx hb dM_store_104 (by decide) ?_
    refine lv_icmp_ge (tgt := 134) hx hb dM_store_106 (by decide) (fun c0 => absurd c0 (by decide)) (fun _ => ?_)
    refine lv_aload_n hx hb dM_store_109 rfl (lv_at hl 2 rfl) ?_
    refine va_get (D := (dC, dI)) (ci := 1) (v := .ref q2) (C := RM) (T := TM) (N := 4) hx hb hts iM hown hK hP 0 rfl rfl 1 (by decide) (hts _ tw_215) (fun _ h9 => h9) rfl dM_store_110 ?_
    refine lv_bipush (v := (6 : Int32)) hx hb dM_store_113 (by decide) ?_
    refine lv_iload_n hx hb dM_store_115 rfl (lv_at hl 3 rfl) ?_
    refine lv_imul hx hb dM_store_116 ?_
    refine lv_iload hx hb dM_store_117 (lv_at hl 0 rfl) ?_
    refine lv_iadd hx hb dM_store_119 ?_
    refine lv_aload_n hx hb dM_store_120 rfl (lv_at hl 2 rfl) ?_
    refine va_get (D := (dC, dI)) (ci := 1) (v := .ref q4) (C := RM) (T := TM) (N := 4) hx hb hts iM hown hK hP 0 rfl rfl 3 (by decide) (hts _ tw_217) (fun _ h9 => h9) rfl dM_store_121 ?_
    refine lv_iload hx hb dM_store_124 (lv_at hl 0 rfl) ?_
    refine va_iald hx hb hK hP 4 3 rfl rfl (by unfold vp_in; decide) dM_store_126 ?_
    refine kk_top (y := v_29) (by first | rfl | (simp [upd]; done)) ?_
    refine va_iast hx hb hK hP hD hS 2 1 rfl rfl (in_96 (may_1 c_1) (by unfold vp_in; decide)) dM_store_127 (fun H locs hP hD hS => ?_)
    have hP : va_P (dC, dI) vwCl (wsM h0 q1 q2 q3 q4 k1 k2 k3 k4 g (upd (upd (upd (upd b (((6 : Int32) * a1) + (1 : Int32)).toNatClampNeg v_8) (((6 : Int32) * a1) + (2 : Int32)).toNatClampNeg v_15) (((6 : Int32) * a1) + (3 : Int32)).toNatClampNeg v_22) (((6 : Int32) * a1) + (4 : Int32)).toNatClampNeg v_29) t (upd (upd (upd (upd (upd w 1 v_8) 2 v_15) 3 v_22) 4 v_29) 5 v_36)) H := hP
    have hD : va_D A (wsM h0 q1 q2 q3 q4 k1 k2 k3 k4 g (upd (upd (upd (upd b (((6 : Int32) * a1) + (1 : Int32)).toNatClampNeg v_8) (((6 : Int32) * a1) + (2 : Int32)).toNatClampNeg v_15) (((6 : Int32) * a1) + (3 : Int32)).toNatClampNeg v_22) (((6 : Int32) * a1) + (4 : Int32)).toNatClampNeg v_29) t (upd (upd (upd (upd (upd w 1 v_8) 2 v_15) 3 v_22) 4 v_29) 5 v_36)) := hD
    refine lv_iinc (v := (5 : Int32)) (lv' := [(4, .int (5 : Int32)), (5, .int v_33), (0, .ref h0), (1, .int a1), (2, .int a2), (3, .int a3)]) hx hb dM_store_128 hl (k := 0) rfl (by decide) (by decide) rfl (fun ls hl => ?_)
    refine lv_goto (tgt := 102) hx hb dM_store_131 (by decide) ?_
    refine lv_iload hx hb dM_store_102 (lv_at hl 0 rfl) ?_
    refine lv_bipush (v := (6 : Int32)) hx hb dM_store_104 (by decide) ?_
    refine lv_icmp_ge (tgt := 134) hx hb dM_store_106 (by decide) (fun c0 => absurd c0 (by decide)) (fun _ => ?_)
    refine lv_aload_n hx hb dM_store_109 rfl (lv_at hl 2 rfl) ?_
    refine va_get (D := (dC, dI)) (ci := 1) (v := .ref q2) (C := RM) (T := TM) (N := 4) hx hb hts iM hown hK hP 0 rfl rfl 1 (by decide) (hts _ tw_215) (fun _ h9 => h9) rfl dM_store_110 ?_
    refine lv_bipush (v := (6 : Int32)) hx hb dM_store_113 (by decide) ?_
    refine lv_iload_n hx hb dM_store_115 rfl (lv_at hl 3 rfl) ?_
    refine lv_imul hx hb dM_store_116 ?_
    refine lv_iload hx hb dM_store_117 (lv_at hl 0 rfl) ?_
    refine lv_iadd hx hb dM_store_119 ?_
    refine lv_aload_n hx hb dM_store_120 rfl (lv_at hl 2 rfl) ?_
    refine va_get (D := (dC, dI)) (ci := 1) (v := .ref q4) (C := RM) (T := TM) (N := 4) hx hb hts iM hown hK hP 0 rfl rfl 3 (by decide) (hts _ tw_217) (fun _ h9 => h9) rfl dM_store_121 ?_
    refine lv_iload hx hb dM_store_124 (lv_at hl 0 rfl) ?_
    refine va_iald hx hb hK hP 4 3 rfl rfl (by unfold vp_in; decide) dM_store_126 ?_
    refine kk_top (y := v_36) (by first | rfl | (simp [upd]; done)) ?_
    refine va_iast hx hb hK hP hD hS 2 1 rfl rfl (in_96 (may_1 c_1) (by unfold vp_in; decide)) dM_store_127 (fun H locs hP hD hS => ?_)
    have hP : va_P (dC, dI) vwCl (wsM h0 q1 q2 q3 q4 k1 k2 k3 k4 g (upd (upd (upd (upd (upd b (((6 : Int32) * a1) + (1 : Int32)).toNatClampNeg v_8) (((6 : Int32) * a1) + (2 : Int32)).toNatClampNeg v_15) (((6 : Int32) * a1) + (3 : Int32)).toNatClampNeg v_22) (((6 : Int32) * a1) + (4 : Int32)).toNatClampNeg v_29) (((6 : Int32) * a1) + (5 : Int32)).toNatClampNeg v_36) t (upd (upd (upd (upd (upd w 1 v_8) 2 v_15) 3 v_22) 4 v_29) 5 v_36)) H := hP
    have hD : va_D A (wsM h0 q1 q2 q3 q4 k1 k2 k3 k4 g (upd (upd (upd (upd (upd b (((6 : Int32) * a1) + (1 : Int32)).toNatClampNeg v_8) (((6 : Int32) * a1) + (2 : Int32)).toNatClampNeg v_15) (((6 : Int32) * a1) + (3 : Int32)).toNatClampNeg v_22) (((6 : Int32) * a1) + (4 : Int32)).toNatClampNeg v_29) (((6 : Int32) * a1) + (5 : Int32)).toNatClampNeg v_36) t (upd (upd (upd (upd (upd w 1 v_8) 2 v_15) 3 v_22) 4 v_29) 5 v_36)) := hD
    refine lv_iinc (v := (6 : Int32)) (lv' := [(4, .int (6 : Int32)), (5, .int v_33), (0, .ref h0), (1, .int a1), (2, .int a2), (3, .int a3)]) hx hb dM_store_128 hl (k := 0) rfl (by decide) (by decide) rfl (fun ls hl => ?_)
    refine lv_goto (tgt := 102) hx hb dM_store_131 (by decide) ?_
    refine lv_iload hx hb dM_store_102 (lv_at hl 0 rfl) ?_
    refine lv_bipush (v := (6 : Int32)) hx hb dM_store_104 (by decide) ?_
    refine lv_icmp_ge (tgt := 134) hx hb dM_store_106 (by decide) (fun _ => ?_) (fun c0 => absurd (by decide) c0)
    refine lv_aload_n hx hb dM_store_134 rfl (lv_at hl 2 rfl) ?_
    refine va_get (D := (dC, dI)) (ci := 1) (v := .ref q1) (C := RM) (T := TM) (N := 4) hx hb hts iM hown hK hP 0 rfl rfl 0 (by decide) (hts _ tw_214) (fun _ h9 => h9) rfl dM_store_135 ?_
    refine lv_iload_n hx hb dM_store_138 rfl (lv_at hl 3 rfl) ?_
    refine kk_mrg (pc' := 160) (ls' := ls) (rest' := [.int a1, .ref q1]) (x := (if (8 : Int32) ≤ a3 then (g a1.toNatClampNeg) else (g a2.toNatClampNeg))) (fun hk_37 => ?_) (fun v_39 ev_39 => ?_)
    · refine lv_iload_n hx hb dM_store_139 rfl (lv_at hl 5 rfl) ?_
      refine lv_bipush (v := (8 : Int32)) hx hb dM_store_140 (by decide) ?_
      refine lv_icmp_ge (tgt := 154) hx hb dM_store_142 (by decide) (fun c_38 => ?_) (fun c_38 => ?_)
      · refine lv_aload_n hx hb dM_store_154 rfl (lv_at hl 2 rfl) ?_
        refine va_get (D := (dC, dI)) (ci := 1) (v := .ref q1) (C := RM) (T := TM) (N := 4) hx hb hts iM hown hK hP 0 rfl rfl 0 (by decide) (hts _ tw_214) (fun _ h9 => h9) rfl dM_store_155 ?_
        refine lv_iload_n hx hb dM_store_158 rfl (lv_at hl 3 rfl) ?_
        refine va_zald hx hb hK hP 1 0 rfl rfl (in_M (may_1 c_1)) dM_store_159 ?_
        exact hk_37 _ (by rw [if_pos c_38])
      · refine lv_aload_n hx hb dM_store_145 rfl (lv_at hl 2 rfl) ?_
        refine va_get (D := (dC, dI)) (ci := 1) (v := .ref q1) (C := RM) (T := TM) (N := 4) hx hb hts iM hown hK hP 0 rfl rfl 0 (by decide) (hts _ tw_214) (fun _ h9 => h9) rfl dM_store_146 ?_
        refine lv_iload_n hx hb dM_store_149 rfl (lv_at hl 4 rfl) ?_
        refine va_zald hx hb hK hP 1 0 rfl rfl (in_M (may_2 c_1)) dM_store_150 ?_
        refine lv_goto (tgt := 160) hx hb dM_store_151 (by decide) ?_
        exact hk_37 _ (by rw [if_neg c_38])
    refine va_zast hx hb hK hP hD hS 1 0 rfl rfl (in_M (may_1 c_1)) dM_store_160 (fun H locs hP hD hS => ?_)
    have hP : va_P (dC, dI) vwCl (wsM h0 q1 q2 q3 q4 k1 k2 k3 k4 (upd g a1.toNatClampNeg (vp_nar .boolean v_39)) (upd (upd (upd (upd (upd b (((6 : Int32) * a1) + (1 : Int32)).toNatClampNeg v_8) (((6 : Int32) * a1) + (2 : Int32)).toNatClampNeg v_15) (((6 : Int32) * a1) + (3 : Int32)).toNatClampNeg v_22) (((6 : Int32) * a1) + (4 : Int32)).toNatClampNeg v_29) (((6 : Int32) * a1) + (5 : Int32)).toNatClampNeg v_36) t (upd (upd (upd (upd (upd w 1 v_8) 2 v_15) 3 v_22) 4 v_29) 5 v_36)) H := hP
    have hD : va_D A (wsM h0 q1 q2 q3 q4 k1 k2 k3 k4 (upd g a1.toNatClampNeg (vp_nar .boolean v_39)) (upd (upd (upd (upd (upd b (((6 : Int32) * a1) + (1 : Int32)).toNatClampNeg v_8) (((6 : Int32) * a1) + (2 : Int32)).toNatClampNeg v_15) (((6 : Int32) * a1) + (3 : Int32)).toNatClampNeg v_22) (((6 : Int32) * a1) + (4 : Int32)).toNatClampNeg v_29) (((6 : Int32) * a1) + (5 : Int32)).toNatClampNeg v_36) t (upd (upd (upd (upd (upd w 1 v_8) 2 v_15) 3 v_22) 4 v_29) 5 v_36)) := hD
    refine lv_iconst (v := (1 : Int32)) hx hb dM_store_161 (by decide) ?_
    have eu_g : upd g a1.toNatClampNeg (vp_nar .boolean v_39) = (u_M_store_g g b t w a1 a2 a3) := (by subst ev_5; subst ev_8; subst ev_12; subst ev_15; subst ev_19; subst ev_22; subst ev_26; subst ev_29; subst ev_33; subst ev_36; subst ev_39; unfold u_M_store_g; rw [if_neg c_1])
    have eu_b : upd (upd (upd (upd (upd b (((6 : Int32) * a1) + (1 : Int32)).toNatClampNeg v_8) (((6 : Int32) * a1) + (2 : Int32)).toNatClampNeg v_15) (((6 : Int32) * a1) + (3 : Int32)).toNatClampNeg v_22) (((6 : Int32) * a1) + (4 : Int32)).toNatClampNeg v_29) (((6 : Int32) * a1) + (5 : Int32)).toNatClampNeg v_36 = (u_M_store_b g b t w a1 a2 a3) := (by subst ev_5; subst ev_8; subst ev_12; subst ev_15; subst ev_19; subst ev_22; subst ev_26; subst ev_29; subst ev_33; subst ev_36; subst ev_39; unfold u_M_store_b; rw [if_neg c_1])
    have eu_w : upd (upd (upd (upd (upd w 1 v_8) 2 v_15) 3 v_22) 4 v_29) 5 v_36 = (u_M_store_w g b t w a1 a2 a3) := (by subst ev_5; subst ev_8; subst ev_12; subst ev_15; subst ev_19; subst ev_22; subst ev_26; subst ev_29; subst ev_33; subst ev_36; subst ev_39; unfold u_M_store_w; rw [if_neg c_1])
    have hP9 : va_P (dC, dI) vwCl (wsM h0 q1 q2 q3 q4 k1 k2 k3 k4 ((u_M_store_g g b t w a1 a2 a3)) ((u_M_store_b g b t w a1 a2 a3)) t ((u_M_store_w g b t w a1 a2 a3))) H := by rw [← eu_g, ← eu_b, ← eu_w]; exact hP
    have hD9 : va_D A (wsM h0 q1 q2 q3 q4 k1 k2 k3 k4 ((u_M_store_g g b t w a1 a2 a3)) ((u_M_store_b g b t w a1 a2 a3)) t ((u_M_store_w g b t w a1 a2 a3))) := by rw [← eu_g, ← eu_b, ← eu_w]; exact hD
    exact W.zret (v := (1 : Int32)) hx hb hr (by decide) (fun tt ht hW => ⟨⟨(1 : Int32), (), rfl, (by subst ev_5; subst ev_8; subst ev_12; subst ev_15; subst ev_19; subst ev_22; subst ev_26; subst ev_29; subst ev_33; subst ev_36; subst ev_39; unfold f_M_store; rw [if_neg c_1]), by rw [ht]; exact hP9, hD9⟩, hS.F ht⟩) hS.2.2 dM_store_162
  · refine lv_iconst (v := (0 : Int32)) hx hb dM_store_10 (by decide) ?_
    have eu_g : g = (u_M_store_g g b t w a1 a2 a3) := (by unfold u_M_store_g; rw [if_pos c_1])
    have eu_b : b = (u_M_store_b g b t w a1 a2 a3) := (by unfold u_M_store_b; rw [if_pos c_1])
    have eu_w : w = (u_M_store_w g b t w a1 a2 a3) := (by unfold u_M_store_w; rw [if_pos c_1])
    have hP9 : va_P (dC, dI) vwCl (wsM h0 q1 q2 q3 q4 k1 k2 k3 k4 ((u_M_store_g g b t w a1 a2 a3)) ((u_M_store_b g b t w a1 a2 a3)) t ((u_M_store_w g b t w a1 a2 a3))) H := by rw [← eu_g, ← eu_b, ← eu_w]; exact hP
    have hD9 : va_D A (wsM h0 q1 q2 q3 q4 k1 k2 k3 k4 ((u_M_store_g g b t w a1 a2 a3)) ((u_M_store_b g b t w a1 a2 a3)) t ((u_M_store_w g b t w a1 a2 a3))) := by rw [← eu_g, ← eu_b, ← eu_w]; exact hD
    exact W.zret (v := (0 : Int32)) hx hb hr (by decide) (fun tt ht hW => ⟨⟨(0 : Int32), (), rfl, (by unfold f_M_store; rw [if_pos c_1]), by rw [ht]; exact hP9, hD9⟩, hS.F ht⟩) hS.2.2 dM_store_11
