set_option maxHeartbeats 4000000 in
set_option maxRecDepth 100000 in
theorem x6_path (l : Launch) (hl0 : l.stackTraces = false) (G : va_G) (y : Nat → ClassId) (b0 : Nat) (σ : th_M) (E : th_E) (hO : ok y E σ) (a : Nat) (h_a : kd E a = 12) (i : Int) (ri : rng i) (n : Int) (rn : rng n) (hy0 : ∀ k : Int, 0 ≤ k → k < gI σ a 1 → 0 ≤ (aF σ (ad E a 0) k.toNat).toInt ∧ (aF σ (ad E a 0) k.toNat).toInt ≤ 255) : vx_Met l yX10_path wsX10_path ({ frames := 52, cells := 11, slots := 614, locals := 2007 }) (th_PX G y b0 σ [.ref a, .int (I i), .int (I n)]) (th_Qi G b0 (fun r σ1 => ∃ E1, ext E E1 ∧ ok y E1 σ1 ∧ fr [12, 5, 3, 4] E σ σ1 ∧ (gI σ1 a 11 = gI σ a 11 ∧ (((0 ≤ i ∧ i ≤ 3) ∧ 0 ≤ n ∧ n ≤ gI σ a 1) ∧ gI σ1 a 1 = 0) ∧ ∃ T p, tkSt (byf (aF σ (ad E a 0)) n) T ∧ PthR T r p))) (th_XX G b0 (fun X σ1 => ∃ E1, ext E E1 ∧ ok y E1 σ1 ∧ fr [12, 5, 3, 4] E σ σ1 ∧ (((X = nq_NSE ∧ ¬ (0 ≤ i ∧ i ≤ 3)) ∨ (X = nq_IAE ∧ (0 ≤ i ∧ i ≤ 3) ∧ ¬ (0 ≤ n ∧ n ≤ gI σ a 1))) ∧ gI σ1 a 1 = gI σ a 1 ∧ gI σ1 a 11 = gI σ a 11 ∧ aF σ1 (ad E a 0) = aF σ (ad E a 0)))) 11 614 (th_A b0) := by
  refine vx_ofW (cc := cX10_path) (maxL := 5) (ret := (some .int)) (by decide) rfl ?_
  intro p e s m args below meth c s₁ B hml htab hv
  obtain ⟨rfl, hH, hK, hXs⟩ := hv
  have hx := B.exec
  have hb := B.bytes
  have hr := B.returns
  have hts := atoms_spec (ws := wsX10_path) B.pre
  have hown : s.vm.findClass RX10 = some m.cls := findClass_of_methodNamed B.named
  have hlocks := B.notSynchronized
  have h00 : b0 ≤ s.heap.size := hH.1
  have hS : va_S (th_A b0) s.heap s.heap [] := va_S.rf
  have hF : fr [12, 5, 3, 4] E σ σ := fr.rf
  have hX : ext E E := ext.rf
  have inX10 : ∀ w ∈ wsX100, w ∈ wsX10_path := by decide +kernel
  have inX4 : ∀ w ∈ wsX40, w ∈ wsX10_path := by decide +kernel
  have fl0 := hts (.fieldLink RX10 47 "NestQuery" "pathReader" "LNestQuery$PathReader;") (by decide +kernel)
  have fl1 := hts (.fieldLink RX10 9 "NestQuery" "tape" "[I") (by decide +kernel)
  have fl2 := hts (.fieldLink RX10 24 "NestQuery" "sparePath" "LNestQuery$Path;") (by decide +kernel)
  have fl3 := hts (.fieldLink RX10 19 "NestQuery" "paths" "[LNestQuery$Path;") (by decide +kernel)
  have fl4 := hts (.classLink RX10 17 RX4) (by decide +kernel)
  have fl5 := hts (.instantiable RX4 14) (by decide +kernel)
  have fl6 := hts (.initialized RX4) (by decide +kernel)
  have fl7 := hts (.instanceMethod yX4_init) (by decide +kernel)
  have hl := lv_entry ([.ref a, .int (I i), .int (I n)]) (n := 5) (Nat.le_of_ble_eq_true rfl)
  rw [lg_entry_eq]
  generalize (lg_sl ([.ref a, .int (I i), .int (I n)]) ++ List.replicate (5 - (lg_sl ([.ref a, .int (I i), .int (I n)])).length) Slot.unset).toArray = ls at hl ⊢
  have hl : lv_has ls 5 [(0, .ref a), (1, .int (I i)), (2, .int (I n))] := hl
  obtain ⟨a10, ea10, ra10, la10, ua10⟩ := hO.gi h_a (by decide) k12_1
  obtain ⟨a110, ea110, ra110, la110, ua110⟩ := hO.gi h_a (by decide) k12_11
  refine lv_iload_n hx hb dX10_path_0 rfl (lv_at hl 1 rfl) ?_
  refine lv_if_lt (tgt := 9) hx hb dX10_path_1 (by decide) (fun c_1 => ?_) (fun c_1 => ?_)
  · replace c_1 := (I_lt (a := i) (b := 0) ri (show rng 0 from ⟨by decide, by decide⟩)).mp c_1
    exact th_throwN (text := "no such path may be") hx hb hl0 hown hts (by first | exact fun w h => List.mem_cons_of_mem _ (List.mem_append_right _ h) | exact fun w h => List.mem_cons_of_mem _ (List.mem_append_left _ (List.mem_append_right _ h)) | decide +kernel) (by decide +kernel) (by decide +kernel) hXs hS hH (hl.1.trans hml.symm) htab hlocks (List.mem_of_getElem? (i := 1) rfl) dX10_path_9 dX10_path_12 dX10_path_13 dX10_path_15 dX10_path_18 (Nat.le_of_ble_eq_true rfl) (Nat.le_of_ble_eq_true rfl) (Nat.le_of_ble_eq_true rfl) (Nat.le_of_ble_eq_true rfl) ⟨E, hX, hO, hF, ⟨by first | exact Or.inl ⟨rfl, by omega⟩ | exact Or.inr ⟨rfl, by omega, by omega⟩, by omega, by omega, rfl⟩⟩ (Nat.le_of_ble_eq_true rfl) (Nat.le_of_ble_eq_true rfl)
  · replace c_1 := mt (I_lt (a := i) (b := 0) ri (show rng 0 from ⟨by decide, by decide⟩)).mpr c_1
    refine lv_iload_n hx hb dX10_path_4 rfl (lv_at hl 1 rfl) ?_
    refine lv_iconst (v := I 4) hx hb dX10_path_5 (by decide) ?_
    refine lv_icmp_lt (tgt := 19) hx hb dX10_path_6 (by decide) (fun c_2 => ?_) (fun c_2 => ?_)
    · replace c_2 := (I_lt (a := i) (b := 4) ri (show rng 4 from ⟨by decide, by decide⟩)).mp c_2
      refine lv_aload_n hx hb dX10_path_19 rfl (lv_at hl 0 rfl) ?_
      refine lv_iload_n hx hb dX10_path_20 rfl (lv_at hl 2 rfl) ?_
      obtain ⟨_, hc_3⟩ := hO.cell h_a (by decide) (ci := 10) rfl
      refine th_calli (va_runV (As := [.int (I n)]) (rest := []) ⟨hx, hb, hml, hown, hts⟩ (q_tapeHas l G y b0 σ E hO a h_a n (show rng n from rn)) (cwV 1 hts gX10_path_X10_tapeHas rfl rfl rfl (by decide +kernel) ⟨Nat.le_of_ble_eq_true rfl, Nat.le_of_ble_eq_true rfl⟩) (th_PV hK hH rfl hc_3) rfl rfl hl.1 rfl (lv_room (Nat.le_of_ble_eq_true rfl)) dX10_path_21 ⟨Nat.le_of_ble_eq_true rfl, Nat.le_of_ble_eq_true rfl⟩) hS (fun z_6 σ_s_5 H locs rz_6 hw_4 hH hS => ?_)
      obtain ⟨e9, bhw_4, hw_4⟩ := hw_4
      replace e9 := e9.symm
      subst e9
      replace hw_4 : (z_6 = 1 ∧ 0 ≤ n ∧ n ≤ gI σ a 1) ∨ (z_6 = 0 ∧ ¬ (0 ≤ n ∧ n ≤ gI σ a 1)) := hw_4
      refine lv_if_ne (tgt := 37) hx hb dX10_path_24 (by decide) (fun c_7 => ?_) (fun c_7 => ?_)
      · replace c_7 := mt (I_eq (a := z_6) (b := 0) rz_6 (show rng 0 from ⟨by decide, by decide⟩)).mpr c_7
        refine lv_aload_n hx hb dX10_path_37 rfl (lv_at hl 0 rfl) ?_
        have hp_8 : kd E (ad E a 7) = 11 := ok.pk hO h_a (by decide) k12_7 rfl
        refine ok.getR hO h_a (by decide) k12_7 (by decide) (fun _ _ he hv kk => th_get (ci := 10) (C := RX10) (T := TX10) (N := 18) hx hb hts inX10 hown hK hH he rfl 7 (by decide) fl0 hv dX10_path_38 kk) ?_
        refine lv_aload_n hx hb dX10_path_41 rfl (lv_at hl 0 rfl) ?_
        refine ok.getR hO h_a (by decide) k12_0 (by decide) (fun _ _ he hv kk => th_get (ci := 10) (C := RX10) (T := TX10) (N := 18) hx hb hts inX10 hown hK hH he rfl 0 (by decide) fl1 hv dX10_path_42 kk) ?_
        refine lv_iload_n hx hb dX10_path_45 rfl (lv_at hl 2 rfl) ?_
        refine lv_aload_n hx hb dX10_path_46 rfl (lv_at hl 0 rfl) ?_
        refine ok.getM hO h_a (by decide) k12_4 rfl (fun _ _ he hv kk => th_get (ci := 10) (C := RX10) (T := TX10) (N := 18) hx hb hts inX10 hown hK hH he rfl 4 (by decide) fl2 hv dX10_path_47 kk) (fun b_9 hb_10 => ?_)
        obtain ⟨_, hc_11⟩ := hO.cell hp_8 (by decide) (ci := 5) rfl
        refine th_calli (va_runV (As := [.ref (ad E a 0), .int (I n), .ref b_9]) (rest := []) ⟨hx, hb, hml, hown, hts⟩ (s6_read l G y b0 σ E hO (ad E a 7) hp_8 a h_a n (show rng n from rn) b_9 hb_10 (byf (aF σ (ad E a 0)) n) (by omega) ((fun k h0 h1 => (byf_in h0 h1).symm)) ((fun k h1 => byf_out h1)) ((byf_byt hy0 (by omega))) ((fun k h0 h1 => by rw [byf_in h0 h1]; exact (hy0 k h0 (by omega)).1))) (cwV 3 hts gX10_path_X5_read rfl rfl rfl (by decide +kernel) ⟨Nat.le_of_ble_eq_true rfl, Nat.le_of_ble_eq_true rfl⟩) (th_PV hK hH rfl hc_11) rfl rfl hl.1 rfl (lv_room (Nat.le_of_ble_eq_true rfl)) dX10_path_50 ⟨Nat.le_of_ble_eq_true rfl, Nat.le_of_ble_eq_true rfl⟩) hS (fun z_14 σ_s_13 H locs rz_14 hw_12 hH hS => ?_)
        obtain ⟨hO9, hF9, hw_12⟩ := hw_12
        have e_15 : gI σ_s_13 a 1 = a10 := (fr.ki hO hF9 h_a (by decide) (by decide) _).trans ea10
        have e_16 : gI σ_s_13 a 11 = a110 := (fr.ki hO hF9 h_a (by decide) (by decide) _).trans ea110
        replace hO := hO9
        replace hF := hF.ex hX hF9 (by decide)
        replace hw_12 : ∃ T, tkSt (byf (aF σ (ad E a 0)) n) T ∧ PthR T z_14 (gI σ_s_13 (ad E (ad E a 7) 0) 8) := hw_12
        refine lv_istore_n (lv' := [(3, .int (I z_14)), (0, .ref a), (1, .int (I i)), (2, .int (I n))]) hx hb dX10_path_53 rfl hl (by decide) rfl (fun ls hl => ?_)
        refine lv_aload_n hx hb dX10_path_54 rfl (lv_at hl 1 rfl) ?_
        refine lv_iload_n hx hb dX10_path_55 rfl (lv_at hl 0 rfl) ?_
        obtain ⟨_, hc_17⟩ := hO.cell h_a (by decide) (ci := 10) rfl
        refine th_callv (va_runV (As := [.int (I z_14)]) (rest := []) ⟨hx, hb, hml, hown, hts⟩ (q6_textWasRead l G y b0 σ_s_13 E hO a h_a z_14 (show rng z_14 from rz_14)) (cwV 1 hts gX10_path_X10_textWasRead rfl rfl rfl (by decide +kernel) ⟨Nat.le_of_ble_eq_true rfl, Nat.le_of_ble_eq_true rfl⟩) (th_PV hK hH rfl hc_17) rfl rfl hl.1 rfl (lv_room (Nat.le_of_ble_eq_true rfl)) dX10_path_56 ⟨Nat.le_of_ble_eq_true rfl, Nat.le_of_ble_eq_true rfl⟩) hS (fun σ_s_19 H locs hw_18 hH hS => ?_)
        obtain ⟨hO9, hF9, hw_18⟩ := hw_18
        replace hO := hO9
        replace hF := hF.ex hX hF9 (by decide)
        replace hw_18 : gI σ_s_19 a 1 = 0 ∧ gI σ_s_19 a 11 = gI σ_s_13 a 11 := hw_18
        obtain ⟨z_20, e_21, rz_20, lz_20, uz_20⟩ := hO.gi h_a (by decide) k12_1
        obtain ⟨z_22, e_23, rz_22, lz_22, uz_22⟩ := hO.gi h_a (by decide) k12_11
        refine lv_iload_n hx hb dX10_path_59 rfl (lv_at hl 0 rfl) ?_
        refine lv_if_ne (tgt := 102) hx hb dX10_path_60 (by decide) (fun c_24 => ?_) (fun c_24 => ?_)
        · replace c_24 := mt (I_eq (a := z_14) (b := 0) rz_14 (show rng 0 from ⟨by decide, by decide⟩)).mpr c_24
          refine lv_iload_n hx hb dX10_path_102 rfl (lv_at hl 0 rfl) ?_
          refine vx_ret ?_
          refine W.widen (k := 11) (n := 614) (Nat.le_of_ble_eq_true rfl) (Nat.le_of_ble_eq_true rfl) ?_
          exact th_iret hx hb hr hlocks hH hS (z := z_14) rz_14 ⟨E, hX, hO, hF, ⟨by omega, by omega, by obtain ⟨T, h8, h9⟩ := hw_12; exact ⟨T, _, h8, h9⟩⟩⟩ dX10_path_103
        · replace c_24 := (I_eq (a := z_14) (b := 0) rz_14 (show rng 0 from ⟨by decide, by decide⟩)).mp c_24
          refine lv_aload_n hx hb dX10_path_63 rfl (lv_at hl 1 rfl) ?_
          refine ok.getR hO h_a (by decide) k12_3 (by decide) (fun _ _ he hv kk => th_get (ci := 10) (C := RX10) (T := TX10) (N := 18) hx hb hts inX10 hown hK hH he rfl 3 (by decide) fl3 hv dX10_path_64 kk) ?_
          refine lv_iload_n hx hb dX10_path_67 rfl (lv_at hl 2 rfl) ?_
          refine ok_aald hx hb hK hH hO h_a (by decide) k12_3 (Or.inl rfl) rfl ri (by omega) (by omega) dX10_path_68 (fun x_25 hx_26 => ?_)
          cases x_25 with
          | none =>
            refine lv_astoreN (lv' := [(4, .null), (3, .int (I z_14)), (0, .ref a), (1, .int (I i)), (2, .int (I n))]) hx hb dX10_path_69 hl (by decide) rfl (fun ls hl => ?_)
            refine lv_aload_n hx hb dX10_path_71 rfl (lv_at hl 2 rfl) ?_
            refine ok.getR hO h_a (by decide) k12_3 (by decide) (fun _ _ he hv kk => th_get (ci := 10) (C := RX10) (T := TX10) (N := 18) hx hb hts inX10 hown hK hH he rfl 3 (by decide) fl3 hv dX10_path_72 kk) ?_
            refine lv_iload_n hx hb dX10_path_75 rfl (lv_at hl 3 rfl) ?_
            refine lv_aload_n hx hb dX10_path_76 rfl (lv_at hl 2 rfl) ?_
            refine ok.getM hO h_a (by decide) k12_4 rfl (fun _ _ he hv kk => th_get (ci := 10) (C := RX10) (T := TX10) (N := 18) hx hb hts inX10 hown hK hH he rfl 4 (by decide) fl2 hv dX10_path_77 kk) (fun b_29 hb_30 => ?_)
            refine ok_aast hx hb hK hH hS h00 hO h_a (by decide) k12_3 (Or.inl rfl) (v := b_29) hb_30 ri (by omega) (by omega) dX10_path_80 (fun σ_s_31 H locs hO hF9 hi9 hH hS => ?_)
            replace hF := hF.ex hX hF9 (by decide)
            have e_32 : gI σ_s_31 a 1 = z_20 := (hi9 _ _).trans e_21
            have e_33 : gI σ_s_31 a 11 = z_22 := (hi9 _ _).trans e_23
            refine lv_aload_n hx hb dX10_path_81 rfl (lv_at hl 2 rfl) ?_
            refine lv_aloadN hx hb dX10_path_82 (lv_at hl 0 rfl) ?_
            refine lv_ifnonnullN hx hb dX10_path_84 ?_
            refine th_new (ci := 4) (fs := [.null, .null, .null, .int 0, .null, .int 0, .null, .null, .int 0, .null, .null, .null, .null, .int 0]) (C := RX4) (T := TX4) (N := 14) hx hb hts inX4 tyX4 tyX4_ok hown fl4 fl5 fl6 hK hH hS h00 rfl nq_defX4 (Nat.le_of_ble_eq_true rfl) (Nat.le_of_ble_eq_true rfl) dX10_path_87 (fun q_34 H hn9 hb9 hH hS => ?_)
            refine lv_dup hx hb dX10_path_90 rfl ?_
            have hz9 := th_non_up hH
            obtain ⟨k9, hk9⟩ := hH.pos (th_up_at _ _ _)
            refine th_ctor (va_runIN (As := []) (rest := [.ref q_34, .ref a]) ⟨hx, hb, hml, hown, hts⟩ (i_Path l G y H.size q_34) ⟨(va_cnB 0 hts gX10_path_X4_init_n23 rfl rfl rfl (ml_0 hK) fl6 (by decide +kernel) ⟨Nat.le_of_ble_eq_true rfl, Nat.le_of_ble_eq_true rfl⟩), rfl, fl7⟩ (nq_PS hK hH.P hH.D [k9] (by simp only [List.map, hk9]) rfl) rfl rfl hl.1 rfl (lv_room (Nat.le_of_ble_eq_true rfl)) dX10_path_91 ⟨Nat.le_of_ble_eq_true rfl, Nat.le_of_ble_eq_true rfl⟩) hH (th_up_at _ _ _) (fun u => ⟨0, _, rfl⟩) hS (fun u9 H locs _ hD9 hH hS => ?_)
            obtain ⟨E_35, hX9, hO9, hF9, hp_36⟩ := nt_path hO hn9 hz9 (show va_D _ (ntW_path y q_34 u9) from hD9)
            have hH : th_H G b0 (th_lay (th_up σ_s_31 q_34 (.inr (4, [.null, .null, .null, .int 0, .null, .int 0, .null, .null, .int 0, .null, .null, .null, .null, .int 0]))) (ntW_path y q_34 u9)) H := hH
            generalize th_lay (th_up σ_s_31 q_34 (.inr (4, [.null, .null, .null, .int 0, .null, .int 0, .null, .null, .int 0, .null, .null, .null, .null, .int 0]))) (ntW_path y q_34 u9) = σ_s_37 at hH hO9 hF9
            have e_38 : gI σ_s_37 a 1 = z_20 := (fr.ki hO hF9 h_a (by decide) (by decide) _).trans e_32
            have e_39 : gI σ_s_37 a 11 = z_22 := (fr.ki hO hF9 h_a (by decide) (by decide) _).trans e_33
            replace hO := hO9
            replace hF := hF.ex hX hF9 (by decide)
            replace hX := hX.tr hX9
            have hp_40 : kd E_35 a = 12 := hX9.kd2 h_a (by decide)
            refine lv_goto (tgt := 99) hx hb dX10_path_94 (by decide) ?_
            refine ok.putM hO hp_40 (by decide) k12_4 hp_36 (fun _ he hl9 kk => th_put (ci := 10) (v := .ref q_34) (ty := .object "NestQuery$Path") (C := RX10) (T := TX10) (N := 18) hx hb hts inX10 tyX10 tyX10_ok nmX10 hown hK hH hS h00 he rfl 4 (by decide) fl2 rfl (by decide +kernel) rfl rfl hl9 dX10_path_99 kk) (fun σ_s_41 H locs hO hF9 hi9 hH hS => ?_)
            replace hF := hF.ex hX hF9 (by decide)
            have e_42 : gI σ_s_41 a 1 = z_20 := (hi9 _ _ (Or.inr (by decide))).trans e_38
            have e_43 : gI σ_s_41 a 11 = z_22 := (hi9 _ _ (Or.inr (by decide))).trans e_39
            refine lv_iload_n hx hb dX10_path_102 rfl (lv_at hl 1 rfl) ?_
            refine vx_ret ?_
            exact th_iret hx hb hr hlocks hH hS (z := z_14) rz_14 ⟨E_35, hX, hO, hF, ⟨by omega, by omega, by obtain ⟨T, h8, h9⟩ := hw_12; exact ⟨T, _, h8, h9⟩⟩⟩ dX10_path_103
          | some b_27 =>
            have hb_28 : kd E b_27 = 4 := hx_26 b_27 rfl
            refine lv_astore (lv' := [(4, .ref b_27), (3, .int (I z_14)), (0, .ref a), (1, .int (I i)), (2, .int (I n))]) hx hb dX10_path_69 hl (by decide) rfl (fun ls hl => ?_)
            refine lv_aload_n hx hb dX10_path_71 rfl (lv_at hl 2 rfl) ?_
            refine ok.getR hO h_a (by decide) k12_3 (by decide) (fun _ _ he hv kk => th_get (ci := 10) (C := RX10) (T := TX10) (N := 18) hx hb hts inX10 hown hK hH he rfl 3 (by decide) fl3 hv dX10_path_72 kk) ?_
            refine lv_iload_n hx hb dX10_path_75 rfl (lv_at hl 3 rfl) ?_
            refine lv_aload_n hx hb dX10_path_76 rfl (lv_at hl 2 rfl) ?_
            refine ok.getM hO h_a (by decide) k12_4 rfl (fun _ _ he hv kk => th_get (ci := 10) (C := RX10) (T := TX10) (N := 18) hx hb hts inX10 hown hK hH he rfl 4 (by decide) fl2 hv dX10_path_77 kk) (fun b_44 hb_45 => ?_)
            refine ok_aast hx hb hK hH hS h00 hO h_a (by decide) k12_3 (Or.inl rfl) (v := b_44) hb_45 ri (by omega) (by omega) dX10_path_80 (fun σ_s_46 H locs hO hF9 hi9 hH hS => ?_)
            replace hF := hF.ex hX hF9 (by decide)
            have e_47 : gI σ_s_46 a 1 = z_20 := (hi9 _ _).trans e_21
            have e_48 : gI σ_s_46 a 11 = z_22 := (hi9 _ _).trans e_23
            refine lv_aload_n hx hb dX10_path_81 rfl (lv_at hl 2 rfl) ?_
            refine lv_aload hx hb dX10_path_82 (lv_at hl 0 rfl) ?_
            refine lv_ifnonnull (tgt := 97) hx hb dX10_path_84 (by decide) ?_
            refine lv_aload hx hb dX10_path_97 (lv_at hl 0 rfl) ?_
            refine ok.putM hO h_a (by decide) k12_4 hb_28 (fun _ he hl9 kk => th_put (ci := 10) (v := .ref b_27) (ty := .object "NestQuery$Path") (C := RX10) (T := TX10) (N := 18) hx hb hts inX10 tyX10 tyX10_ok nmX10 hown hK hH hS h00 he rfl 4 (by decide) fl2 rfl (by decide +kernel) rfl rfl hl9 dX10_path_99 kk) (fun σ_s_49 H locs hO hF9 hi9 hH hS => ?_)
            replace hF := hF.ex hX hF9 (by decide)
            have e_50 : gI σ_s_49 a 1 = z_20 := (hi9 _ _ (Or.inr (by decide))).trans e_47
            have e_51 : gI σ_s_49 a 11 = z_22 := (hi9 _ _ (Or.inr (by decide))).trans e_48
            refine lv_iload_n hx hb dX10_path_102 rfl (lv_at hl 1 rfl) ?_
            refine vx_ret ?_
            refine W.widen (k := 11) (n := 614) (Nat.le_of_ble_eq_true rfl) (Nat.le_of_ble_eq_true rfl) ?_
            exact th_iret hx hb hr hlocks hH hS (z := z_14) rz_14 ⟨E, hX, hO, hF, ⟨by omega, by omega, by obtain ⟨T, h8, h9⟩ := hw_12; exact ⟨T, _, h8, h9⟩⟩⟩ dX10_path_103
      · replace c_7 := (I_eq (a := z_6) (b := 0) rz_6 (show rng 0 from ⟨by decide, by decide⟩)).mp c_7
        exact th_throwI (text := "the tape has not so many bytes") hx hb hl0 hown hts (by first | exact fun w h => List.mem_cons_of_mem _ (List.mem_append_right _ h) | exact fun w h => List.mem_cons_of_mem _ (List.mem_append_left _ (List.mem_append_right _ h)) | decide +kernel) (by decide +kernel) (by decide +kernel) hXs hS hH (hl.1.trans hml.symm) htab hlocks (List.mem_of_getElem? (i := 0) rfl) dX10_path_27 dX10_path_30 dX10_path_31 dX10_path_33 dX10_path_36 (Nat.le_of_ble_eq_true rfl) (Nat.le_of_ble_eq_true rfl) (Nat.le_of_ble_eq_true rfl) (Nat.le_of_ble_eq_true rfl) ⟨E, hX, hO, hF, ⟨by first | exact Or.inl ⟨rfl, by omega⟩ | exact Or.inr ⟨rfl, by omega, by omega⟩, by omega, by omega, rfl⟩⟩ (Nat.le_of_ble_eq_true rfl) (Nat.le_of_ble_eq_true rfl)
    · replace c_2 := mt (I_lt (a := i) (b := 4) ri (show rng 4 from ⟨by decide, by decide⟩)).mpr c_2
      exact th_throwN (text := "no such path may be") hx hb hl0 hown hts (by first | exact fun w h => List.mem_cons_of_mem _ (List.mem_append_right _ h) | exact fun w h => List.mem_cons_of_mem _ (List.mem_append_left _ (List.mem_append_right _ h)) | decide +kernel) (by decide +kernel) (by decide +kernel) hXs hS hH (hl.1.trans hml.symm) htab hlocks (List.mem_of_getElem? (i := 1) rfl) dX10_path_9 dX10_path_12 dX10_path_13 dX10_path_15 dX10_path_18 (Nat.le_of_ble_eq_true rfl) (Nat.le_of_ble_eq_true rfl) (Nat.le_of_ble_eq_true rfl) (Nat.le_of_ble_eq_true rfl) ⟨E, hX, hO, hF, ⟨by first | exact Or.inl ⟨rfl, by omega⟩ | exact Or.inr ⟨rfl, by omega, by omega⟩, by omega, by omega, rfl⟩⟩ (Nat.le_of_ble_eq_true rfl) (Nat.le_of_ble_eq_true rfl)
