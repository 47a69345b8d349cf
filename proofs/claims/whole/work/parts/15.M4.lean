set_option maxHeartbeats 4000000 in
set_option maxRecDepth 100000 in
theorem c_M_load (l : Launch) (dC : Nat → ClassId) (dI : Nat → Nat → Nat) (h0 q1 q2 q3 q4 : Nat) (k1 k2 k3 k4 : ClassId) (sz : Nat) (g b t w : Nat → Int32) (a1 a2 a3 : Int32) : Met l yM_load wsM_load ({ frames := 2, cells := 0, slots := 0, locals := 43 }) (va_Pc [.ref h0, .int a1, .int a2, .int a3] (fun U => U.heap.size = sz ∧ va_P (dC, dI) vwCl (wsM h0 q1 q2 q3 q4 k1 k2 k3 k4 g b t w) U.heap ∧ va_K (dC, dI) vwCl [(k1, .boolean), (k2, .int), (k3, .int), (k4, .int)] U ∧ va_D (fun _ => True) (wsM h0 q1 q2 q3 q4 k1 k2 k3 k4 g b t w))) (va_Qi (fun (r : Int32) (_ : Unit) => r = f_M_load g b t w a1 a2 a3) (fun _ tt => va_P (dC, dI) vwCl (wsM h0 q1 q2 q3 q4 k1 k2 k3 k4 ((u_M_load_g g b t w a1 a2 a3)) ((u_M_load_b g b t w a1 a2 a3)) t ((u_M_load_w g b t w a1 a2 a3))) tt.heap ∧ va_D (va_A (wsM h0 q1 q2 q3 q4 k1 k2 k3 k4 g b t w) sz) (wsM h0 q1 q2 q3 q4 k1 k2 k3 k4 ((u_M_load_g g b t w a1 a2 a3)) ((u_M_load_b g b t w a1 a2 a3)) t ((u_M_load_w g b t w a1 a2 a3)))) (va_A (wsM h0 q1 q2 q3 q4 k1 k2 k3 k4 g b t w) sz)) 0 0 (va_A (wsM h0 q1 q2 q3 q4 k1 k2 k3 k4 g b t w) sz) := by
  refine Met.ofW (cc := prog_3_method_11_code) (maxL := 6) (ret := (some .boolean)) (by decide) rfl ?_
  intro p e s m args below meth c s₁ B hml hv
  obtain ⟨rfl, hsz, hP, hK, hD0⟩ := hv
  have hx := B.exec
  have hb := B.bytes
  have hr := B.returns
  have hts := fun (w : Cond) (h : w ∈ gw) => atoms_spec (ws := wsM_load) B.pre w (List.mem_cons_of_mem _ h)
  have hown : s.vm.findClass RM = some m.cls := findClass_of_methodNamed B.named
  have hlocks := B.notSynchronized
  subst hsz
  have hD := hD0.self (sz := s.heap.size)
  generalize hAe : va_A (wsM h0 q1 q2 q3 q4 k1 k2 k3 k4 g b t w) s.heap.size = A at hD ⊢
  have hS : va_S A s.heap s.heap [] := va_S.rf
  have hl := lv_entry ([.ref h0, .int a1, .int a2, .int a3]) (n := 6) (Nat.le_of_ble_eq_true rfl)
  rw [lg_entry_eq]
  generalize (lg_sl ([.ref h0, .int a1, .int a2, .int a3]) ++ List.replicate (6 - (lg_sl ([.ref h0, .int a1, .int a2, .int a3])).length) Slot.unset).toArray = ls at hl ⊢
  have hl : lv_has ls 6 [(0, .ref h0), (1, .int a1), (2, .int a2), (3, .int a3)] := hl
  refine lv_aload_n hx hb dM_load_0 rfl (lv_at hl 0 rfl) ?_
  refine lv_iload_n hx hb dM_load_1 rfl (lv_at hl 1 rfl) ?_
  refine lv_iload_n hx hb dM_load_2 rfl (lv_at hl 2 rfl) ?_
  refine lv_iload_n hx hb dM_load_3 rfl (lv_at hl 3 rfl) ?_
  refine kk_callP (va_runV (As := [.int a1, .int a2, .int a3]) (rest := []) ⟨hx, hb, hml, hown, hts⟩ (c_M_may l h0 a1 a2 a3) (cwV 3 hts (gV tw_255 tw_257 tw_p1 tw_2 tw_258) rfl rfl rfl (by decide +kernel) ⟨Nat.le_of_ble_eq_true rfl, Nat.le_of_ble_eq_true rfl⟩) ⟨fun _ _ _ _ q => q, va_recv hK hP (ci := 1) (q0 := 0) rfl rfl, fun _ _ _ => ⟨rfl, trivial⟩⟩ rfl rfl hl.1 rfl (lv_room (Nat.le_of_ble_eq_true rfl)) dM_load_4 ⟨Nat.le_of_ble_eq_true rfl, Nat.le_of_ble_eq_true rfl⟩) hS hP (fun H locs hS hP => ?_)
  refine lv_if_ne (tgt := 12) hx hb dM_load_7 (by decide) (fun c_1 => ?_) (fun c_1 => ?_)
  · refine lv_iconst (v := (1 : Int32)) hx hb dM_load_12 (by decide) ?_
    refine lv_istore (lv' := [(4, .int (1 : Int32)), (0, .ref h0), (1, .int a1), (2, .int a2), (3, .int a3)]) hx hb dM_load_13 hl (by decide) rfl (fun ls hl => ?_)
    refine lv_iload hx hb dM_load_15 (lv_at hl 0 rfl) ?_
    refine lv_bipush (v := (6 : Int32)) hx hb dM_load_17 (by decide) ?_
    refine lv_icmp_ge (tgt := 71) hx hb dM_load_19 (by decide) (fun c0 => absurd c0 (by decide)) (fun _ => ?_)
    refine lv_iload hx hb dM_load_22 (lv_at hl 0 rfl) ?_
    refine lv_iconst (v := (5 : Int32)) hx hb dM_load_24 (by decide) ?_
    refine lv_isub hx hb dM_load_25 ?_
    refine lv_iload_n hx hb dM_load_26 rfl (lv_at hl 4 rfl) ?_
    refine lv_bipush (v := (8 : Int32)) hx hb dM_load_27 (by decide) ?_
    refine lv_irem hx hb dM_load_29 (by decide) ?_
    refine lv_iadd hx hb dM_load_30 ?_
    refine lv_topi (fun x_2 ex_2 => ?_)
    refine lv_istore (lv' := [(5, .int x_2), (4, .int (1 : Int32)), (0, .ref h0), (1, .int a1), (2, .int a2), (3, .int a3)]) hx hb dM_load_31 hl (by decide) rfl (fun ls hl => ?_)
    refine lv_aload_n hx hb dM_load_33 rfl (lv_at hl 2 rfl) ?_
    refine va_get (D := (dC, dI)) (ci := 1) (v := .ref q4) (C := RM) (T := TM) (N := 4) hx hb hts iM hown hK hP 0 rfl rfl 3 (by decide) (hts _ tw_217) (fun _ h9 => h9) rfl dM_load_34 ?_
    refine lv_iload hx hb dM_load_37 (lv_at hl 1 rfl) ?_
    refine lv_iload hx hb dM_load_39 (lv_at hl 0 rfl) ?_
    refine lv_iload_n hx hb dM_load_41 rfl (lv_at hl 5 rfl) ?_
    refine kk_callP (va_runS (As := [.int a3]) (rest := [.int x_2, .int (1 : Int32), .ref q4]) ⟨hx, hb, hml, hown, hts⟩ (c_M_first l a3) (va_cwS 1 hts (gS tw_262 tw_263 tw_2 tw_264) rfl rfl rfl (by decide +kernel) ⟨Nat.le_of_ble_eq_true rfl, Nat.le_of_ble_eq_true rfl⟩) ⟨fun _ _ _ _ q => q, fun _ _ _ => ⟨rfl, trivial⟩⟩ rfl rfl hl.1 rfl (lv_room (Nat.le_of_ble_eq_true rfl)) dM_load_42 ⟨Nat.le_of_ble_eq_true rfl, Nat.le_of_ble_eq_true rfl⟩) hS hP (fun H locs hS hP => ?_)
    refine kk_mrg (pc' := 64) (ls' := ls) (rest' := [.int (1 : Int32), .ref q4]) (x := (if x_2 < (f_M_first a3) then (0 : Int32) else (b (((6 : Int32) * a2) + x_2).toNatClampNeg))) (fun hk_3 => ?_) (fun v_5 ev_5 => ?_)
    · refine lv_icmp_lt (tgt := 63) hx hb dM_load_45 (by decide) (fun c_4 => ?_) (fun c_4 => ?_)
      · refine lv_iconst (v := (0 : Int32)) hx hb dM_load_63 (by decide) ?_
        exact hk_3 _ (by rw [if_pos c_4])
      · refine lv_aload_n hx hb dM_load_48 rfl (lv_at hl 2 rfl) ?_
        refine va_get (D := (dC, dI)) (ci := 1) (v := .ref q2) (C := RM) (T := TM) (N := 4) hx hb hts iM hown hK hP 0 rfl rfl 1 (by decide) (hts _ tw_215) (fun _ h9 => h9) rfl dM_load_49 ?_
        refine lv_bipush (v := (6 : Int32)) hx hb dM_load_52 (by decide) ?_
        refine lv_iload_n hx hb dM_load_54 rfl (lv_at hl 4 rfl) ?_
        refine lv_imul hx hb dM_load_55 ?_
        refine lv_iload hx hb dM_load_56 (lv_at hl 0 rfl) ?_
        refine lv_iadd hx hb dM_load_58 ?_
        refine va_iald hx hb hK hP 2 1 rfl rfl (in_96L c_1 (by unfold vp_in; decide) ex_2 c_4) dM_load_59 ?_
        refine lv_goto (tgt := 64) hx hb dM_load_60 (by decide) ?_
        exact hk_3 _ (by rw [if_neg c_4])
    refine va_iast hx hb hK hP hD hS 4 3 rfl rfl (by unfold vp_in; decide) dM_load_64 (fun H locs hP hD hS => ?_)
    have hP : va_P (dC, dI) vwCl (wsM h0 q1 q2 q3 q4 k1 k2 k3 k4 g b t (upd w 1 v_5)) H := hP
    have hD : va_D A (wsM h0 q1 q2 q3 q4 k1 k2 k3 k4 g b t (upd w 1 v_5)) := hD
    refine lv_iinc (v := (2 : Int32)) (lv' := [(4, .int (2 : Int32)), (5, .int x_2), (0, .ref h0), (1, .int a1), (2, .int a2), (3, .int a3)]) hx hb dM_load_65 hl (k := 1) rfl (by decide) (by decide) rfl (fun ls hl => ?_)
    refine lv_goto (tgt := 15) hx hb dM_load_68 (by decide) ?_
    refine lv_iload hx hb dM_load_15 (lv_at hl 0 rfl) ?_
    refine lv_bipush (v := (6 : Int32)) hx hb dM_load_17 (by decide) ?_
    refine lv_icmp_ge (tgt := 71) hx hb dM_load_19 (by decide) (fun c0 => absurd c0 (by decide)) (fun _ => ?_)
    refine lv_iload hx hb dM_load_22 (lv_at hl 0 rfl) ?_
    refine lv_iconst (v := (5 : Int32)) hx hb dM_load_24 (by decide) ?_
    refine lv_isub hx hb dM_load_25 ?_
    refine lv_iload_n hx hb dM_load_26 rfl (lv_at hl 5 rfl) ?_
    refine lv_bipush (v := (8 : Int32)) hx hb dM_load_27 (by decide) ?_
    refine lv_irem hx hb dM_load_29 (by decide) ?_
    refine lv_iadd hx hb dM_load_30 ?_
    refine lv_topi (fun x_6 ex_6 => ?_)
    refine lv_istore (lv' := [(5, .int x_6), (4, .int (2 : Int32)), (0, .ref h0), (1, .int a1), (2, .int a2), (3, .int a3)]) hx hb dM_load_31 hl (by decide) rfl (fun ls hl => ?_)
    refine lv_aload_n hx hb dM_load_33 rfl (lv_at hl 2 rfl) ?_
    refine va_get (D := (dC, dI)) (ci := 1) (v := .ref q4) (C := RM) (T := TM) (N := 4) hx hb hts iM hown hK hP 0 rfl rfl 3 (by decide) (hts _ tw_217) (fun _ h9 => h9) rfl dM_load_34 ?_
    refine lv_iload hx hb dM_load_37 (lv_at hl 1 rfl) ?_
    refine lv_iload hx hb dM_load_39 (lv_at hl 0 rfl) ?_
    refine lv_iload_n hx hb dM_load_41 rfl (lv_at hl 5 rfl) ?_
    refine kk_callP (va_runS (As := [.int a3]) (rest := [.int x_6, .int (2 : Int32), .ref q4]) ⟨hx, hb, hml, hown, hts⟩ (c_M_first l a3) (va_cwS 1 hts (gS tw_262 tw_263 tw_2 tw_264) rfl rfl rfl (by decide +kernel) ⟨Nat.le_of_ble_eq_true rfl, Nat.le_of_ble_eq_true rfl⟩) ⟨fun _ _ _ _ q => q, fun _ _ _ => ⟨rfl, trivial⟩⟩ rfl rfl hl.1 rfl (lv_room (Nat.le_of_ble_eq_true rfl)) dM_load_42 ⟨Nat.le_of_ble_eq_true rfl, Nat.le_of_ble_eq_true rfl⟩) hS hP (fun H locs hS hP => ?_)
    refine kk_mrg (pc' := 64) (ls' := ls) (rest' := [.int (2 : Int32), .ref q4]) (x := (if x_6 < (f_M_first a3) then (0 : Int32) else (b (((6 : Int32) * a2) + x_6).toNatClampNeg))) (fun hk_7 => ?_) (fun v_9 ev_9 => ?_)
    · refine lv_icmp_lt (tgt := 63) hx hb dM_load_45 (by decide) (fun c_8 => ?_) (fun c_8 => ?_)
      · refine lv_iconst (v := (0 : Int32)) hx hb dM_load_63 (by decide) ?_
        exact hk_7 _ (by rw [if_pos c_8])
      · refine lv_aload_n hx hb dM_load_48 rfl (lv_at hl 2 rfl) ?_
        refine va_get (D := (dC, dI)) (ci := 1) (v := .ref q2) (C := RM) (T := TM) (N := 4) hx hb hts iM hown hK hP 0 rfl rfl 1 (by decide) (hts _ tw_215) (fun _ h9 => h9) rfl dM_load_49 ?_
        refine lv_bipush (v := (6 : Int32)) hx hb dM_load_52 (by decide) ?_
        refine lv_iload_n hx hb dM_load_54 rfl (lv_at hl 4 rfl) ?_
        refine lv_imul hx hb dM_load_55 ?_
        refine lv_iload hx hb dM_load_56 (lv_at hl 0 rfl) ?_
        refine lv_iadd hx hb dM_load_58 ?_
        refine va_iald hx hb hK hP 2 1 rfl rfl (in_96L c_1 (by unfold vp_in; decide) ex_6 c_8) dM_load_59 ?_
        refine lv_goto (tgt := 64) hx hb dM_load_60 (by decide) ?_
        exact hk_7 _ (by rw [if_neg c_8])
    refine va_iast hx hb hK hP hD hS 4 3 rfl rfl (by unfold vp_in; decide) dM_load_64 (fun H locs hP hD hS => ?_)
    have hP : va_P (dC, dI) vwCl (wsM h0 q1 q2 q3 q4 k1 k2 k3 k4 g b t (upd (upd w 1 v_5) 2 v_9)) H := hP
    have hD : va_D A (wsM h0 q1 q2 q3 q4 k1 k2 k3 k4 g b t (upd (upd w 1 v_5) 2 v_9)) := hD
    refine lv_iinc (v := (3 : Int32)) (lv' := [(4, .int (3 : Int32)), (5, .int x_6), (0, .ref h0), (1, .int a1), (2, .int a2), (3, .int a3)]) hx hb dM_load_65 hl (k := 1) rfl (by decide) (by decide) rfl (fun ls hl => ?_)
    refine lv_goto (tgt := 15) hx hb dM_load_68 (by decide) ?_
    refine lv_iload hx hb dM_load_15 (lv_at hl 0 rfl) ?_
    refine lv_bipush (v := (6 : Int32)) hx hb dM_load_17 (by decide) ?_
    refine lv_icmp_ge (tgt := 71) hx hb dM_load_19 (by decide) (fun c0 => absurd c0 (by decide)) (fun _ => ?_)
    refine lv_iload hx hb dM_load_22 (lv_at hl 0 rfl) ?_
    refine lv_iconst (v := (5 : Int32)) hx hb dM_load_24 (by decide) ?_
    refine lv_isub hx hb dM_load_25 ?_
    refine lv_iload_n hx hb dM_load_26 rfl (lv_at hl 5 rfl) ?_
    refine lv_bipush (v := (8 : Int32)) hx hb dM_load_27 (by decide) ?_
    refine lv_irem hx hb dM_load_29 (by decide) ?_
    refine lv_iadd hx hb dM_load_30 ?_
    refine lv_topi (fun x_10 ex_10 => ?_)
    refine lv_istore (lv' := [(5, .int x_10), (4, .int (3 : Int32)), (0, .ref h0), (1, .int a1), (2, .int a2), (3, .int a3)]) hx hb dM_load_31 hl (by decide) rfl (fun ls hl => ?_)
    refine lv_aload_n hx hb dM_load_33 rfl (lv_at hl 2 rfl) ?_
    refine va_get (D := (dC, dI)) (ci := 1) (v := .ref q4) (C := RM) (T := TM) (N := 4) hx hb hts iM hown hK hP 0 rfl rfl 3 (by decide) (hts _ tw_217) (fun _ h9 => h9) rfl dM_load_34 ?_
    refine lv_iload hx hb dM_load_37 (lv_at hl 1 rfl) ?_
    refine lv_iload hx hb dM_load_39 (lv_at hl 0 rfl) ?_
    refine lv_iload_n hx hb dM_load_41 rfl (lv_at hl 5 rfl) ?_
    refine kk_callP (va_runS (As := [.int a3]) (rest := [.int x_10, .int (3 : Int32), .ref q4]) ⟨hx, hb, hml, hown, hts⟩ (c_M_first l a3) (va_cwS 1 hts (gS tw_262 tw_263 tw_2 tw_264) rfl rfl rfl (by decide +kernel) ⟨Nat.le_of_ble_eq_true rfl, Nat.le_of_ble_eq_true rfl⟩) ⟨fun _ _ _ _ q => q, fun _ _ _ => ⟨rfl, trivial⟩⟩ rfl rfl hl.1 rfl (lv_room (Nat.le_of_ble_eq_true rfl)) dM_load_42 ⟨Nat.le_of_ble_eq_true rfl, Nat.le_of_ble_eq_true rfl⟩) hS hP (fun H locs hS hP => ?_)
    refine kk_mrg (pc' := 64) (ls' := ls) (rest' := [.int (3 : Int32), .ref q4]) (x := (if x_10 < (f_M_first a3) then (0 : Int32) else (b (((6 : Int32) * a2) + x_10).toNatClampNeg))) (fun hk_11 => ?_) (fun v_13 ev_13 => ?_)
    · refine lv_icmp_lt (tgt := 63) hx hb dM_load_45 (by decide) (fun c_12 => ?_) (fun c_12 => ?_)
      · refine lv_iconst (v := (0 : Int32)) hx hb dM_load_63 (by decide) ?_
        exact hk_11 _ (by rw [if_pos c_12])
      · refine lv_aload_n hx hb dM_load_48 rfl (lv_at hl 2 rfl) ?_
        refine va_get (D := (dC, dI)) (ci := 1) (v := .ref q2) (C := RM) (T := TM) (N := 4) hx hb hts iM hown hK hP 0 rfl rfl 1 (by decide) (hts _ tw_215) (fun _ h9 => h9) rfl dM_load_49 ?_
        refine lv_bipush (v := (6 : Int32)) hx hb dM_load_52 (by decide) ?_
        refine lv_iload_n hx hb dM_load_54 rfl (lv_at hl 4 rfl) ?_
        refine lv_imul hx hb dM_load_55 ?_
        refine lv_iload hx hb dM_load_56 (lv_at hl 0 rfl) ?_
        refine lv_iadd hx hb dM_load_58 ?_
        refine va_iald hx hb hK hP 2 1 rfl rfl (in_96L c_1 (by unfold vp_in; decide) ex_10 c_12) dM_load_59 ?_
        refine lv_goto (tgt := 64) hx hb dM_load_60 (by decide) ?_
        exact hk_11 _ (by rw [if_neg c_12])
    refine va_iast hx hb hK hP hD hS 4 3 rfl rfl (by unfold vp_in; decide) dM_load_64 (fun H locs hP hD hS => ?_)
    have hP : va_P (dC, dI) vwCl (wsM h0 q1 q2 q3 q4 k1 k2 k3 k4 g b t (upd (upd (upd w 1 v_5) 2 v_9) 3 v_13)) H := hP
    have hD : va_D A (wsM h0 q1 q2 q3 q4 k1 k2 k3 k4 g b t (upd (upd (upd w 1 v_5) 2 v_9) 3 v_13)) := hD
    refine lv_iinc (v := (4 : Int32)) (lv' := [(4, .int (4 : Int32)), (5, .int x_10), (0, .ref h0), (1, .int a1), (2, .int a2), (3, .int a3)]) hx hb dM_load_65 hl (k := 1) rfl (by decide) (by decide) rfl (fun ls hl => ?_)
    refine lv_goto (tgt := 15) hx hb dM_load_68 (by decide) ?_
    refine lv_iload hx hb dM_load_15 (lv_at hl 0 rfl) ?_
    refine lv_bipush (v := (6 : Int32)) hx hb dM_load_17 (by decide) ?_
    refine lv_icmp_ge (tgt := 71) hx hb dM_load_19 (by decide) (fun c0 => absurd c0 (by decide)) (fun _ => ?_)
    refine lv_iload hx hb dM_load_22 (lv_at hl 0 rfl) ?_
    refine lv_iconst (v := (5 : Int32)) hx hb dM_load_24 (by decide) ?_
    refine lv_isub hx hb dM_load_25 ?_
    refine lv_iload_n hx hb dM_load_26 rfl (lv_at hl 5 rfl) ?_
    refine lv_bipush (v := (8 : Int32)) hx hb dM_load_27 (by decide) ?_
    refine lv_irem hx hb dM_load_29 (by decide) ?_
    refine lv_iadd hx hb dM_load_30 ?_
    refine lv_topi (fun x_14 ex_14 => ?_)
    refine lv_istore (lv' := [(5, .int x_14), (4, .int (4 : Int32)), (0, .ref h0), (1, .int a1), (2, .int a2), (3, .int a3)]) hx hb dM_load_31 hl (by decide) rfl (fun ls hl => ?_)
    refine lv_aload_n hx hb dM_load_33 rfl (lv_at hl 2 rfl) ?_
    refine va_get (D := (dC, dI)) (ci := 1) (v := .ref q4) (C := RM) (T := TM) (N := 4) hx hb hts iM hown hK hP 0 rfl rfl 3 (by decide) (hts _ tw_217) (fun _ h9 => h9) rfl dM_load_34 ?_
    refine lv_iload hx hb dM_load_37 (lv_at hl 1 rfl) ?_
    refine lv_iload hx hb dM_load_39 (lv_at hl 0 rfl) ?_
    refine lv_iload_n hx hb dM_load_41 rfl (lv_at hl 5 rfl) ?_
    refine kk_callP (va_runS (As := [.int a3]) (rest := [.int x_14, .int (4 : Int32), .ref q4]) ⟨hx, hb, hml, hown, hts⟩ (c_M_first l a3) (va_cwS 1 hts (gS tw_262 tw_263 tw_2 tw_264) rfl rfl rfl (by decide +kernel) ⟨Nat.le_of_ble_eq_true rfl, Nat.le_of_ble_eq_true rfl⟩) ⟨fun _ _ _ _ q => q, fun _ _ _ => ⟨rfl, trivial⟩⟩ rfl rfl hl.1 rfl (lv_room (Nat.le_of_ble_eq_true rfl)) dM_load_42 ⟨Nat.le_of_ble_eq_true rfl, Nat.le_of_ble_eq_true rfl⟩) hS hP (fun H locs hS hP => ?_)
    refine kk_mrg (pc' := 64) (ls' := ls) (rest' := [.int (4 : Int32), .ref q4]) (x := (if x_14 < (f_M_first a3) then (0 : Int32) else (b (((6 : Int32) * a2) + x_14).toNatClampNeg))) (fun hk_15 => ?_) (fun v_17 ev_17 => ?_)
    · refine lv_icmp_lt (tgt := 63) hx hb dM_load_45 (by decide) (fun c_16 => ?_) (fun c_16 => ?_)
      · refine lv_iconst (v := (0 : Int32)) hx hb dM_load_63 (by decide) ?_
        exact hk_15 _ (by rw [if_pos c_16])
      · refine lv_aload_n hx hb dM_load_48 rfl (lv_at hl 2 rfl) ?_
        refine va_get (D := (dC, dI)) (ci := 1) (v := .ref q2) (C := RM) (T := TM) (N := 4) hx hb hts iM hown hK hP 0 rfl rfl 1 (by decide) (hts _ tw_215) (fun _ h9 => h9) rfl dM_load_49 ?_
        refine lv_bipush (v := (6 : Int32)) hx hb dM_load_52 (by decide) ?_
        refine lv_iload_n hx hb dM_load_54 rfl (lv_at hl 4 rfl) ?_
        refine lv_imul hx hb dM_load_55 ?_
        refine lv_iload hx hb dM_load_56 (lv_at hl 0 rfl) ?_
        refine lv_iadd hx hb dM_load_58 ?_
        refine va_iald hx hb hK hP 2 1 rfl rfl (in_96L c_1 (by unfold vp_in; decide) ex_14 c_16) dM_load_59 ?_
        refine lv_goto (tgt := 64) hx hb dM_load_60 (by decide) ?_
        exact hk_15 _ (by rw [if_neg c_16])
    refine va_iast hx hb hK hP hD hS 4 3 rfl rfl (by unfold vp_in; decide) dM_load_64 (fun H locs hP hD hS => ?_)
    have hP : va_P (dC, dI) vwCl (wsM h0 q1 q2 q3 q4 k1 k2 k3 k4 g b t (upd (upd (upd (upd w 1 v_5) 2 v_9) 3 v_13) 4 v_17)) H := hP
    have hD : va_D A (wsM h0 q1 q2 q3 q4 k1 k2 k3 k4 g b t (upd (upd (upd (upd w 1 v_5) 2 v_9) 3 v_13) 4 v_17)) := hD
    refine lv_iinc (v := (5 : Int32)) (lv' := [(4, .int (5 : Int32)), (5, .int x_14), (0, .ref h0), (1, .int a1), (2, .int a2), (3, .int a3)]) hx hb dM_load_65 hl (k := 1) rfl (by decide) (by decide) rfl (fun ls hl => ?_)
    refine lv_goto (tgt := 15) hx hb dM_load_68 (by decide) ?_
    refine lv_iload hx hb dM_load_15 (lv_at hl 0 rfl) ?_
    refine lv_bipush (v := (6 : Int32)) hx hb dM_load_17 (by decide) ?_
    refine lv_icmp_ge (tgt := 71) hx hb dM_load_19 (by decide) (fun c0 => absurd c0 (by decide)) (fun _ => ?_)
    refine lv_iload hx hb dM_load_22 (lv_at hl 0 rfl) ?_
    refine lv_iconst (v := (5 : Int32)) hx hb dM_load_24 (by decide) ?_
    refine lv_isub hx hb dM_load_25 ?_
    refine lv_iload_n hx hb dM_load_26 rfl (lv_at hl 5 rfl) ?_
    refine lv_bipush (v := (8 : Int32)) hx hb dM_load_27 (by decide) ?_
    refine lv_irem hx hb dM_load_29 (by decide) ?_
    refine lv_iadd hx hb dM_load_30 ?_
    refine lv_topi (fun x_18 ex_18 => ?_)
    refine lv_istore (lv' := [(5, .int x_18), (4, .int (5 : Int32)), (0, .ref h0), (1, .int a1), (2, .int a2), (3, .int a3)]) hx hb dM_load_31 hl (by decide) rfl (fun ls hl => ?_)
    refine lv_aload_n hx hb dM_load_33 rfl (lv_at hl 2 rfl) ?_
    refine va_get (D := (dC, dI)) (ci := 1) (v := .ref q4) (C := RM) (T := TM) (N := 4) hx hb hts iM hown hK hP 0 rfl rfl 3 (by decide) (hts _ tw_217) (fun _ h9 => h9) rfl dM_load_34 ?_
    refine lv_iload hx hb dM_load_37 (lv_at hl 1 rfl) ?_
    refine lv_iload hx hb dM_load_39 (lv_at hl 0 rfl) ?_
    refine lv_iload_n hx hb dM_load_41 rfl (lv_at hl 5 rfl) ?_
    refine kk_callP (va_runS (As := [.int a3]) (rest := [.int x_18, .int (5 : Int32), .ref q4]) ⟨hx, hb, hml, hown, hts⟩ (c_M_first l a3) (va_cwS 1 hts (gS tw_262 tw_263 tw_2 tw_264) rfl rfl rfl (by decide +kernel) ⟨Nat.le_of_ble_eq_true rfl, Nat.le_of_ble_eq_true rfl⟩) ⟨fun _ _ _ _ q => q, fun _ _ _ => ⟨rfl, trivial⟩⟩ rfl rfl hl.1 rfl (lv_room (Nat.le_of_ble_eq_true rfl)) dM_load_42 ⟨Nat.le_of_ble_eq_true rfl, Nat.le_of_ble_eq_true rfl⟩) hS hP (fun H locs hS hP => ?_)
    refine kk_mrg (pc' := 64) (ls' := ls) (rest' := [.int (5 : Int32), .ref q4]) (x := (if x_18 < (f_M_first a3) then (0 : Int32) else (b (((6 : Int32) * a2) + x_18).toNatClampNeg))) (fun hk_19 => ?_) (fun v_21 ev_21 => ?_)
    · refine lv_icmp_lt (tgt := 63) hx hb dM_load_45 (by decide) (fun c_20 => ?_) (fun c_20 => ?_)
      · refine lv_iconst (v := (0 : Int32)) hx hb dM_load_63 (by decide) ?_
        exact hk_19 _ (by rw [if_pos c_20])
      · refine lv_aload_n hx hb dM_load_48 rfl (lv_at hl 2 rfl) ?_
        refine va_get (D := (dC, dI)) (ci := 1) (v := .ref q2) (C := RM) (T := TM) (N := 4) hx hb hts iM hown hK hP 0 rfl rfl 1 (by decide) (hts _ tw_215) (fun _ h9 => h9) rfl dM_load_49 ?_
        refine lv_bipush (v := (6 : Int32)) hx hb dM_load_52 (by decide) ?_
        refine lv_iload_n hx hb dM_load_54 rfl (lv_at hl 4 rfl) ?_
        refine lv_imul hx hb dM_load_55 ?_
        refine lv_iload hx hb dM_load_56 (lv_at hl 0 rfl) ?_
        refine lv_iadd hx hb dM_load_58 ?_
        refine va_iald hx hb hK hP 2 1 rfl rfl (in_96L c_1 (by unfold vp_in; decide) ex_18 c_20) dM_load_59 ?_
        refine lv_goto (tgt := 64) hx hb dM_load_60 (by decide) ?_
        exact hk_19 _ (by rw [if_neg c_20])
    refine va_iast hx hb hK hP hD hS 4 3 rfl rfl (by unfold vp_in; decide) dM_load_64 (fun H locs hP hD hS => ?_)
    have hP : va_P (dC, dI) vwCl (wsM h0 q1 q2 q3 q4 k1 k2 k3 k4 g b t (upd (upd (upd (upd (upd w 1 v_5) 2 v_9) 3 v_13) 4 v_17) 5 v_21)) H := hP
    have hD : va_D A (wsM h0 q1 q2 q3 q4 k1 k2 k3 k4 g b t (upd (upd (upd (upd (upd w 1 v_5) 2 v_9) 3 v_13) 4 v_17) 5 v_21)) := hD
    refine lv_iinc (v := (6 : Int32)) (lv' := [(4, .int (6 : Int32)), (5, .int x_18), (0, .ref h0), (1, .int a1), (2, .int a2), (3, .int a3)]) hx hb dM_load_65 hl (k := 1) rfl (by decide) (by decide) rfl (fun ls hl => ?_)
    refine lv_goto (tgt := 15) hx hb dM_load_68 (by decide) ?_
    refine lv_iload hx hb dM_load_15 (lv_at hl 0 rfl) ?_
    refine lv_bipush (v := (6 : Int32)) hx hb dM_load_17 (by decide) ?_
    refine lv_icmp_ge (tgt := 71) hx hb dM_load_19 (by decide) (fun _ => ?_) (fun c0 => absurd (by decide) c0)
    refine lv_iconst (v := (1 : Int32)) hx hb dM_load_71 (by decide) ?_
    refine lv_istore (lv' := [(4, .int (1 : Int32)), (5, .int x_18), (0, .ref h0), (1, .int a1), (2, .int a2), (3, .int a3)]) hx hb dM_load_72 hl (by decide) rfl (fun ls hl => ?_)
    refine lv_iload hx hb dM_load_74 (lv_at hl 0 rfl) ?_
    refine lv_bipush (v := (6 : Int32)) hx hb dM_load_76 (by decide) ?_
    refine lv_icmp_ge (tgt := 106) hx hb dM_load_78 (by decide) (fun c0 => absurd c0 (by decide)) (fun _ => ?_)
    refine lv_aload_n hx hb dM_load_81 rfl (lv_at hl 2 rfl) ?_
    refine va_get (D := (dC, dI)) (ci := 1) (v := .ref q2) (C := RM) (T := TM) (N := 4) hx hb hts iM hown hK hP 0 rfl rfl 1 (by decide) (hts _ tw_215) (fun _ h9 => h9) rfl dM_load_82 ?_
    refine lv_bipush (v := (6 : Int32)) hx hb dM_load_85 (by decide) ?_
    refine lv_iload_n hx hb dM_load_87 rfl (lv_at hl 3 rfl) ?_
    refine lv_imul hx hb dM_load_88 ?_
    refine lv_iload hx hb dM_load_89 (lv_at hl 0 rfl) ?_
    refine lv_iadd hx hb dM_load_91 ?_
    refine lv_aload_n hx hb dM_load_92 rfl (lv_at hl 2 rfl) ?_
    refine va_get (D := (dC, dI)) (ci := 1) (v := .ref q4) (C := RM) (T := TM) (N := 4) hx hb hts iM hown hK hP 0 rfl rfl 3 (by decide) (hts _ tw_217) (fun _ h9 => h9) rfl dM_load_93 ?_
    refine lv_iload hx hb dM_load_96 (lv_at hl 0 rfl) ?_
    refine va_iald hx hb hK hP 4 3 rfl rfl (by unfold vp_in; decide) dM_load_98 ?_
    refine kk_top (y := v_5) (by first | rfl | (simp [upd]; done)) ?_
    refine va_iast hx hb hK hP hD hS 2 1 rfl rfl (in_96 (may_1 c_1) (by unfold vp_in; decide)) dM_load_99 (fun H locs hP hD hS => ?_)
    have hP : va_P (dC, dI) vwCl (wsM h0 q1 q2 q3 q4 k1 k2 k3 k4 g (upd b (((6 : Int32) * a1) + (1 : Int32)).toNatClampNeg v_5) t (upd (upd (upd (upd (upd w 1 v_5) 2 v_9) 3 v_13) 4 v_17) 5 v_21)) H := hP
    have hD : va_D A (wsM h0 q1 q2 q3 q4 k1 k2 k3 k4 g (upd b (((6 : Int32) * a1) + (1 : Int32)).toNatClampNeg v_5) t (upd (upd (upd (upd (upd w 1 v_5) 2 v_9) 3 v_13) 4 v_17) 5 v_21)) := hD
    refine lv_iinc (v := (2 : Int32)) (lv' := [(4, .int (2 : Int32)), (5, .int x_18), (0, .ref h0), (1, .int a1), (2, .int a2), (3, .int a3)]) hx hb dM_load_100 hl (k := 0) rfl (by decide) (by decide) rfl (fun ls hl => ?_)
    refine lv_goto (tgt := 74) hx hb dM_load_103 (by decide) ?_
    refine lv_iload hx hb dM_load_74 (lv_at hl 0 rfl) ?_
    refine lv_bipush (v := (6 : Int32)) hx hb dM_load_76 (by decide) ?_
    refine lv_icmp_ge (tgt := 106) hx hb dM_load_78 (by decide) (fun c0 => absurd c0 (by decide)) (fun _ => ?_)
    refine lv_aload_n hx hb dM_load_81 rfl (lv_at hl 2 rfl) ?_
    refine va_get (D := (dC, dI)) (ci := 1) (v := .ref q2) (C := RM) (T := TM) (N := 4) hx hb hts iM hown hK hP 0 rfl rfl 1 (by decide) (hts _ tw_215) (fun _ h9 => h9) rfl dM_load_82 ?_
    refine lv_bipush (v := (6 : Int32)) hx hb dM_load_85 (by decide) ?_
    refine lv_iload_n hx hb dM_load_87 rfl (lv_at hl 3 rfl) ?_
    refine lv_imul hx hb dM_load_88 ?_
    refine lv_iload hx hb dM_load_89 (lv_at hl 0 rfl) ?_
    refine lv_iadd hx hb dM_load_91 ?_
    refine lv_aload_n hx hb dM_load_92 rfl (lv_at hl 2 rfl) ?_
    refine va_get (D := (dC, dI)) (ci := 1) (v := .ref q4) (C := RM) (T := TM) (N := 4) hx hb hts iM hown hK hP 0 rfl rfl 3 (by decide) (hts _ tw_217) (fun _ h9 => h9) rfl dM_load_93 ?_
    refine lv_iload hx hb dM_load_96 (lv_at hl 0 rfl) ?_
    refine va_iald hx hb hK hP 4 3 rfl rfl (by unfold vp_in; decide) dM_load_98 ?_
    refine kk_top (y := v_9) (by first | rfl | (simp [upd]; done)) ?_
    refine va_iast hx hb hK hP hD hS 2 1 rfl rfl (in_96 (may_1 c_1) (by unfold vp_in; decide)) dM_load_99 (fun H locs hP hD hS => ?_)
    have hP : va_P (dC, dI) vwCl (wsM h0 q1 q2 q3 q4 k1 k2 k3 k4 g (upd (upd b (((6 : Int32) * a1) + (1 : Int32)).toNatClampNeg v_5) (((6 : Int32) * a1) + (2 : Int32)).toNatClampNeg v_9) t (upd (upd (upd (upd (upd w 1 v_5) 2 v_9) 3 v_13) 4 v_17) 5 v_21)) H := hP
    have hD : va_D A (wsM h0 q1 q2 q3 q4 k1 k2 k3 k4 g (upd (upd b (((6 : Int32) * a1) + (1 : Int32)).toNatClampNeg v_5) (((6 : Int32) * a1) + (2 : Int32)).toNatClampNeg v_9) t (upd (upd (upd (upd (upd w 1 v_5) 2 v_9) 3 v_13) 4 v_17) 5 v_21)) := hD
    refine lv_iinc (v := (3 : Int32)) (lv' := [(4, .int (3 : Int32)), (5, .int x_18), (0, .ref h0), (1, .int a1), (2, .int a2), (3, .int a3)]) hx hb dM_load_100 hl (k := 0) rfl (by decide) (by decide) rfl (fun ls hl => ?_)
    refine lv_goto (tgt := 74) hx hb dM_load_103 (by decide) ?_
    refine lv_iload hx hb dM_load_74 (lv_at hl 0 rfl) ?_
    refine lv_bipush (v := (6 : Int32)) hx hb dM_load_76 (by decide) ?_
    refine lv_icmp_ge (tgt := 106) hx hb dM_load_78 (by decide) (fun c0 => absurd c0 (by decide)) (fun _ => ?_)
    refine lv_aload_n hx hb dM_load_81 rfl (lv_at hl 2 rfl) ?_
    refine va_get (D := (dC, dI)) (ci := 1) (v := .ref q2) (C := RM) (T := TM) (N := 4) hx hb hts iM hown hK hP 0 rfl rfl 1 (by decide) (hts _ tw_215) (fun _ h9 => h9) rfl dM_load_82 ?_
    refine lv_bipush (v := (6 : Int32)) hx hb dM_load_85 (by decide) ?_
    refine lv_iload_n hx hb dM_load_87 rfl (lv_at hl 3 rfl) ?_
    refine lv_imul hx hb dM_load_88 ?_
    refine lv_iload hx hb dM_load_89 (lv_at hl 0 rfl) ?_
    refine lv_iadd hx hb dM_load_91 ?_
    refine lv_aload_n hx hb dM_load_92 rfl (lv_at hl 2 rfl) ?_
    refine va_get (D := (dC, dI)) (ci := 1) (v := .ref q4) (C := RM) (T := TM) (N := 4) hx hb hts iM hown hK hP 0 rfl rfl 3 (by decide) (hts _ tw_217) (fun _ h9 => h9) rfl dM_load_93 ?_
    refine lv_iload hx hb dM_load_96 (lv_at hl 0 rfl) ?_
    refine va_iald hx hb hK hP 4 3 rfl rfl (by unfold vp_in; decide) dM_load_98 ?_
    refine kk_top (y := v_13) (by first | rfl | (simp [upd]; done)) ?_
    refine va_iast hx hb hK hP hD hS 2 1 rfl rfl (in_96 (may_1 c_1) (by unfold vp_in; decide)) dM_load_99 (fun H locs hP hD hS => ?_)
    have hP : va_P (dC, dI) vwCl (wsM h0 q1 q2 q3 q4 k1 k2 k3 k4 g (upd (upd (upd b (((6 : Int32) * a1) + (1 : Int32)).toNatClampNeg v_5) (((6 : Int32) * a1) + (2 : Int32)).toNatClampNeg v_9) (((6 : Int32) * a1) + (3 : Int32)).toNatClampNeg v_13) t (upd (upd (upd (upd (upd w 1 v_5) 2 v_9) 3 v_13) 4 v_17) 5 v_21)) H := hP
    have hD : va_D A (wsM h0 q1 q2 q3 q4 k1 k2 k3 k4 g (upd (upd (upd b (((6 : Int32) * a1) + (1 : Int32)).toNatClampNeg v_5) (((6 : Int32) * a1) + (2 : Int32)).toNatClampNeg v_9) (((6 : Int32) * a1) + (3 : Int32)).toNatClampNeg v_13) t (upd (upd (upd (upd (upd w 1 v_5) 2 v_9) 3 v_13) 4 v_17) 5 v_21)) := hD
    refine lv_iinc (v := (4 : Int32)) (lv' := [(4, .int (4 : Int32)), (5, .int x_18), (0, .ref h0), (1, .int a1), (2, .int a2), (3, .int a3)]) hx hb dM_load_100 hl (k := 0) rfl (by decide) (by decide) rfl (fun ls hl => ?_)
    refine lv_goto (tgt := 74) hx hb dM_load_103 (by decide) ?_
    refine lv_iload hx hb dM_load_74 (lv_at hl 0 rfl) ?_
    refine lv_bipush (v := (6 : Int32)) hx hb dM_load_76 (by decide) ?_
    refine lv_icmp_ge (tgt := 106) hx hb dM_load_78 (by decide) (fun c0 => absurd c0 (by decide)) (fun _ => ?_)
    refine lv_aload_n hx hb dM_load_81 rfl (lv_at hl 2 rfl) ?_
    refine va_get (D := (dC, dI)) (ci := 1) (v := .ref q2) (C := RM) (T := TM) (N := 4) hx hb hts iM hown hK hP 0 rfl rfl 1 (by decide) (hts _ tw_215) (fun _ h9 => h9) rfl dM_load_82 ?_
    refine lv_bipush (v := (6 : Int32)) hx hb dM_load_85 (by decide) ?_
    refine lv_iload_n hx hb dM_load_87 rfl (lv_at hl 3 rfl) ?_
    refine lv_imul hx hb dM_load_88 ?_
    refine lv_iload hx hb dM_load_89 (lv_at hl 0 rfl) ?_
    refine lv_iadd hx hb dM_load_91 ?_
    refine lv_aload_n hx hb dM_load_92 rfl (lv_at hl 2 rfl) ?_
    refine va_get (D := (dC, dI)) (ci := 1) (v := .ref q4) (C := RM) (T := TM) (N := 4) hx hb hts iM hown hK hP 0 rfl rfl 3 (by decide) (hts _ tw_217) (fun _ h9 => h9) rfl dM_load_93 ?_
    refine lv_iload hx hb dM_load_96 (lv_at hl 0 rfl) ?_
    refine va_iald hx hb hK hP 4 3 rfl rfl (by unfold vp_in; decide) dM_load_98 ?_
    refine kk_top (y := v_17) (by first | rfl | (simp [upd]; done)) ?_
    refine va_iast hx hb hK hP hD hS 2 1 rfl rfl (in_96 (may_1 c_1) (by unfold vp_in; decide)) dM_load_99 (fun H locs hP hD hS => ?_)
    have hP : va_P (dC, dI) vwCl (wsM h0 q1 q2 q3 q4 k1 k2 k3 k4 g (upd (upd (upd (upd b (((6 : Int32) * a1) + (1 : Int32)).toNatClampNeg v_5) (((6 : Int32) * a1) + (2 : Int32)).toNatClampNeg v_9) (((6 : Int32) * a1) + (3 : Int32)).toNatClampNeg v_13) (((6 : Int32) * a1) + (4 : Int32)).toNatClampNeg v_17) t (upd (upd (upd (upd (upd w 1 v_5) 2 v_9) 3 v_13) 4 v_17) 5 v_21)) H := hP
    have hD : va_D A (wsM h0 q1 q2 q3 q4 k1 k2 k3 k4 g (upd (upd (upd (upd b (((6 : Int32) * a1) + (1 : Int32)).toNatClampNeg v_5) (((6 : Int32) * a1) + (2 : Int32)).toNatClampNeg v_9) (((6 : Int32) * a1) + (3 : Int32)).toNatClampNeg v_13) (((6 : Int32) * a1) + (4 : Int32)).toNatClampNeg v_17) t (upd (upd (upd (upd (upd w 1 v_5) 2 v_9) 3 v_13) 4 v_17) 5 v_21)) := hD
    refine lv_iinc (v := (5 : Int32)) (lv' := [(4, .int (5 : Int32)), (5, .int x_18), (0, .ref h0), (1, .int a1), (2, .int a2), (3, .int a3)]) hx hb dM_load_100 hl (k := 0) rfl (by decide) (by decide) rfl (fun ls hl => ?_)
    refine lv_goto (tgt := 74) hx hb dM_load_103 (by decide) ?_
    refine lv_iload hx hb dM_load_74 (lv_at hl 0 rfl) ?_
    refine lv_bipush (v := (6 : Int32)) hx hb dM_load_76 (by decide) ?_
    refine lv_icmp_ge (tgt := 106) hx hb dM_load_78 (by decide) (fun c0 => absurd c0 (by decide)) (fun _ => ?_)
    refine lv_aload_n hx hb dM_load_81 rfl (lv_at hl 2 rfl) ?_
    refine va_get (D := (dC, dI)) (ci := 1) (v := .ref q2) (C := RM) (T := TM) (N := 4) hx hb hts iM hown hK hP 0 rfl rfl 1 (by decide) (hts _ tw_215) (fun _ h9 => h9) rfl dM_load_82 ?_
    refine lv_bipush (v := (6 : Int32)) hx hb dM_load_85 (by decide) ?_
    refine lv_iload_n hx hb dM_load_87 rfl (lv_at hl 3 rfl) ?_
    refine lv_imul hx hb dM_load_88 ?_
    refine lv_iload hx hb dM_load_89 (lv_at hl 0 rfl) ?_
    refine lv_iadd hx hb dM_load_91 ?_
    refine lv_aload_n hx hb dM_load_92 rfl (lv_at hl 2 rfl) ?_
    refine va_get (D := (dC, dI)) (ci := 1) (v := .ref q4) (C := RM) (T := TM) (N := 4) hx hb hts iM hown hK hP 0 rfl rfl 3 (by decide) (hts _ tw_217) (fun _ h9 => h9) rfl dM_load_93 ?_
    refine lv_iload hx hb dM_load_96 (lv_at hl 0 rfl) ?_
    refine va_iald hx hb hK hP 4 3 rfl rfl (by unfold vp_in; decide) dM_load_98 ?_
    refine kk_top (y := v_21) (by first | rfl | (simp [upd]; done)) ?_
    refine va_iast hx hb hK hP hD hS 2 1 rfl rfl (in_96 (may_1 c_1) (by unfold vp_in; decide)) dM_load_99 (fun H locs hP hD hS => ?_)
    have hP : va_P (dC, dI) vwCl (wsM h0 q1 q2 q3 q4 k1 k2 k3 k4 g (upd (upd (upd (upd (upd b (((6 : Int32) * a1) + (1 : Int32)).toNatClampNeg v_5) (((6 : Int32) * a1) + (2 : Int32)).toNatClampNeg v_9) (((6 : Int32) * a1) + (3 : Int32)).toNatClampNeg v_13) (((6 : Int32) * a1) + (4 : Int32)).toNatClampNeg v_17) (((6 : Int32) * a1) + (5 : Int32)).toNatClampNeg v_21) t (upd (upd (upd (upd (upd w 1 v_5) 2 v_9) 3 v_13) 4 v_17) 5 v_21)) H := hP
    have hD : va_D A (wsM h0 q1 q2 q3 q4 k1 k2 k3 k4 g (upd (upd (upd (upd (upd b (((6 : Int32) * a1) + (1 : Int32)).toNatClampNeg v_5) (((6 : Int32) * a1) + (2 : Int32)).toNatClampNeg v_9) (((6 : Int32) * a1) + (3 : Int32)).toNatClampNeg v_13) (((6 : Int32) * a1) + (4 : Int32)).toNatClampNeg v_17) (((6 : Int32) * a1) + (5 : Int32)).toNatClampNeg v_21) t (upd (upd (upd (upd (upd w 1 v_5) 2 v_9) 3 v_13) 4 v_17) 5 v_21)) := hD
    refine lv_iinc (v := (6 : Int32)) (lv' := [(4, .int (6 : Int32)), (5, .int x_18), (0, .ref h0), (1, .int a1), (2, .int a2), (3, .int a3)]) hx hb dM_load_100 hl (k := 0) rfl (by decide) (by decide) rfl (fun ls hl => ?_)
    refine lv_goto (tgt := 74) hx hb dM_load_103 (by decide) ?_
    refine lv_iload hx hb dM_load_74 (lv_at hl 0 rfl) ?_
    refine lv_bipush (v := (6 : Int32)) hx hb dM_load_76 (by decide) ?_
    refine lv_icmp_ge (tgt := 106) hx hb dM_load_78 (by decide) (fun _ => ?_) (fun c0 => absurd (by decide) c0)
    refine lv_aload_n hx hb dM_load_106 rfl (lv_at hl 2 rfl) ?_
    refine va_get (D := (dC, dI)) (ci := 1) (v := .ref q1) (C := RM) (T := TM) (N := 4) hx hb hts iM hown hK hP 0 rfl rfl 0 (by decide) (hts _ tw_214) (fun _ h9 => h9) rfl dM_load_107 ?_
    refine lv_iload_n hx hb dM_load_110 rfl (lv_at hl 3 rfl) ?_
    refine kk_mrg (pc' := 131) (ls' := ls) (rest' := [.int a1, .ref q1]) (x := (if (8 : Int32) ≤ a3 then (0 : Int32) else (if (g a2.toNatClampNeg) = 0 then (0 : Int32) else (1 : Int32)))) (fun hk_22 => ?_) (fun v_25 ev_25 => ?_)
    · refine lv_iload_n hx hb dM_load_111 rfl (lv_at hl 5 rfl) ?_
      refine lv_bipush (v := (8 : Int32)) hx hb dM_load_112 (by decide) ?_
      refine lv_icmp_ge (tgt := 130) hx hb dM_load_114 (by decide) (fun c_23 => ?_) (fun c_23 => ?_)
      · refine lv_iconst (v := (0 : Int32)) hx hb dM_load_130 (by decide) ?_
        exact hk_22 _ (by rw [if_pos c_23])
      · refine lv_aload_n hx hb dM_load_117 rfl (lv_at hl 2 rfl) ?_
        refine va_get (D := (dC, dI)) (ci := 1) (v := .ref q1) (C := RM) (T := TM) (N := 4) hx hb hts iM hown hK hP 0 rfl rfl 0 (by decide) (hts _ tw_214) (fun _ h9 => h9) rfl dM_load_118 ?_
        refine lv_iload_n hx hb dM_load_121 rfl (lv_at hl 4 rfl) ?_
        refine va_zald hx hb hK hP 1 0 rfl rfl (in_M (may_2 c_1)) dM_load_122 ?_
        refine lv_if_eq (tgt := 130) hx hb dM_load_123 (by decide) (fun c_24 => ?_) (fun c_24 => ?_)
        · refine lv_iconst (v := (0 : Int32)) hx hb dM_load_130 (by decide) ?_
          exact hk_22 _ (by rw [if_neg c_23, if_pos c_24])
        · refine lv_iconst (v := (1 : Int32)) hx hb dM_load_126 (by decide) ?_
          refine lv_goto (tgt := 131) hx hb dM_load_127 (by decide) ?_
          exact hk_22 _ (by rw [if_neg c_23, if_neg c_24])
    refine va_zast hx hb hK hP hD hS 1 0 rfl rfl (in_M (may_1 c_1)) dM_load_131 (fun H locs hP hD hS => ?_)
    have hP : va_P (dC, dI) vwCl (wsM h0 q1 q2 q3 q4 k1 k2 k3 k4 (upd g a1.toNatClampNeg (vp_nar .boolean v_25)) (upd (upd (upd (upd (upd b (((6 : Int32) * a1) + (1 : Int32)).toNatClampNeg v_5) (((6 : Int32) * a1) + (2 : Int32)).toNatClampNeg v_9) (((6 : Int32) * a1) + (3 : Int32)).toNatClampNeg v_13) (((6 : Int32) * a1) + (4 : Int32)).toNatClampNeg v_17) (((6 : Int32) * a1) + (5 : Int32)).toNatClampNeg v_21) t (upd (upd (upd (upd (upd w 1 v_5) 2 v_9) 3 v_13) 4 v_17) 5 v_21)) H := hP
    have hD : va_D A (wsM h0 q1 q2 q3 q4 k1 k2 k3 k4 (upd g a1.toNatClampNeg (vp_nar .boolean v_25)) (upd (upd (upd (upd (upd b (((6 : Int32) * a1) + (1 : Int32)).toNatClampNeg v_5) (((6 : Int32) * a1) + (2 : Int32)).toNatClampNeg v_9) (((6 : Int32) * a1) + (3 : Int32)).toNatClampNeg v_13) (((6 : Int32) * a1) + (4 : Int32)).toNatClampNeg v_17) (((6 : Int32) * a1) + (5 : Int32)).toNatClampNeg v_21) t (upd (upd (upd (upd (upd w 1 v_5) 2 v_9) 3 v_13) 4 v_17) 5 v_21)) := hD
    refine lv_iconst (v := (1 : Int32)) hx hb dM_load_132 (by decide) ?_
    have eu_g : upd g a1.toNatClampNeg (vp_nar .boolean v_25) = (u_M_load_g g b t w a1 a2 a3) := (by subst ex_2; subst ev_5; subst ex_6; subst ev_9; subst ex_10; subst ev_13; subst ex_14; subst ev_17; subst ex_18; subst ev_21; subst ev_25; unfold u_M_load_g; rw [if_neg c_1])
    have eu_b : upd (upd (upd (upd (upd b (((6 : Int32) * a1) + (1 : Int32)).toNatClampNeg v_5) (((6 : Int32) * a1) + (2 : Int32)).toNatClampNeg v_9) (((6 : Int32) * a1) + (3 : Int32)).toNatClampNeg v_13) (((6 : Int32) * a1) + (4 : Int32)).toNatClampNeg v_17) (((6 : Int32) * a1) + (5 : Int32)).toNatClampNeg v_21 = (u_M_load_b g b t w a1 a2 a3) := (by subst ex_2; subst ev_5; subst ex_6; subst ev_9; subst ex_10; subst ev_13; subst ex_14; subst ev_17; subst ex_18; subst ev_21; subst ev_25; unfold u_M_load_b; rw [if_neg c_1])
    have eu_w : upd (upd (upd (upd (upd w 1 v_5) 2 v_9) 3 v_13) 4 v_17) 5 v_21 = (u_M_load_w g b t w a1 a2 a3) := (by subst ex_2; subst ev_5; subst ex_6; subst ev_9; subst ex_10; subst ev_13; subst ex_14; subst ev_17; subst ex_18; subst ev_21; subst ev_25; unfold u_M_load_w; rw [if_neg c_1])
    have hP9 : va_P (dC, dI) vwCl (wsM h0 q1 q2 q3 q4 k1 k2 k3 k4 ((u_M_load_g g b t w a1 a2 a3)) ((u_M_load_b g b t w a1 a2 a3)) t ((u_M_load_w g b t w a1 a2 a3))) H := by rw [← eu_g, ← eu_b, ← eu_w]; exact hP
    have hD9 : va_D A (wsM h0 q1 q2 q3 q4 k1 k2 k3 k4 ((u_M_load_g g b t w a1 a2 a3)) ((u_M_load_b g b t w a1 a2 a3)) t ((u_M_load_w g b t w a1 a2 a3))) := by rw [← eu_g, ← eu_b, ← eu_w]; exact hD
    exact W.zret (v := (1 : Int32)) hx hb hr (by decide) (fun tt ht hW => ⟨⟨(1 : Int32), (), rfl, (by subst ex_2; subst ev_5; subst ex_6; subst ev_9; subst ex_10; subst ev_13; subst ex_14; subst ev_17; subst ex_18; subst ev_21; subst ev_25; unfold f_M_load; rw [if_neg c_1]), by rw [ht]; exact hP9, hD9⟩, hS.F ht⟩) hS.2.2 dM_load_133
  · refine lv_iconst (v := (0 : Int32)) hx hb dM_load_10 (by decide) ?_
    have eu_g : g = (u_M_load_g g b t w a1 a2 a3) := (by unfold u_M_load_g; rw [if_pos c_1])
    have eu_b : b = (u_M_load_b g b t w a1 a2 a3) := (by unfold u_M_load_b; rw [if_pos c_1])
    have eu_w : w = (u_M_load_w g b t w a1 a2 a3) := (by unfold u_M_load_w; rw [if_pos c_1])
    have hP9 : va_P (dC, dI) vwCl (wsM h0 q1 q2 q3 q4 k1 k2 k3 k4 ((u_M_load_g g b t w a1 a2 a3)) ((u_M_load_b g b t w a1 a2 a3)) t ((u_M_load_w g b t w a1 a2 a3))) H := by rw [← eu_g, ← eu_b, ← eu_w]; exact hP
    have hD9 : va_D A (wsM h0 q1 q2 q3 q4 k1 k2 k3 k4 ((u_M_load_g g b t w a1 a2 a3)) ((u_M_load_b g b t w a1 a2 a3)) t ((u_M_load_w g b t w a1 a2 a3))) := by rw [← eu_g, ← eu_b, ← eu_w]; exact hD
    exact W.zret (v := (0 : Int32)) hx hb hr (by decide) (fun tt ht hW => ⟨⟨(0 : Int32), (), rfl, (by unfold f_M_load; rw [if_pos c_1]), by rw [ht]; exact hP9, hD9⟩, hS.F ht⟩) hS.2.2 dM_load_11
