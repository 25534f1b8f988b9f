set_option maxRecDepth 20000 in
set_option maxHeartbeats 4000000 in
theorem i_X5 {l : Launch} {G : Gt} {n0 : Nat} {g : Nat → va_E} (h1 : g 1 = .inr (5, [.ref (n0 + 2), .ref (n0 + 3), .ref (n0 + 4), .int (jI 2), .int (jI 1), .int (jI 0), .int (jI 0)])) (h2 : g 2 = .inl (G.2 3, 12, .inr (.inr (.inr (.inr (fun j => some (n0 + (6 + 2 * j)))))))) (h3 : g 3 = .inl (G.2 2, 6, .inr (.inr (.inr (.inr (fun j => some (n0 + (30 + 2 * j)))))))) (h4 : g 4 = .inr (3, [.ref (n0 + 5)])) (h5 : g 5 = .inl (G.2 0, 5, .inl (fun _ => 0))) (hq : ∀ i : Nat, i < 12 → g (6 + 2 * i) = .inr (6, [.ref (n0 + (6 + 2 * i + 1)), .int (jI 0), .int (jI 0), .int (jI 0), .int (jI (-9)), .int (jI (-9)), .int (jI (-9)), .int (jI (-9))])) (hq2 : ∀ i : Nat, i < 12 → g (6 + 2 * i + 1) = .inl (G.2 0, 5, .inl (fun _ => 0))) (hb : ∀ i : Nat, i < 6 → g (30 + 2 * i) = .inr (3, [.ref (n0 + (30 + 2 * i + 1))])) (hb2 : ∀ i : Nat, i < 6 → g (30 + 2 * i + 1) = .inl (G.2 0, 5, .inl (fun _ => 0))) : In l yX5_init cX5_init 2 2 40 216 G n0 [.ref (n0 + 1)] 2 (va_up g 1 (.inr (5, [.null, .null, .null, .int 0, .int 0, .int 0, .int 0]))) 42 g := by
  refine Ct_of (by decide +kernel) (by intro v hv; simp at hv; rcases hv with rfl <;> rfl) (Nat.le_of_ble_eq_true rfl) ?_
  intro p e s m args below meth c9 X hr hname
  have hname : meth.name = "<init>" := hname
  have loop2 : ∀ (d i : Nat), d + i = 6 → WW p l e { frames := 2, cells := 40, slots := 216, locals := 40 * 2 } s m args below meth c9 (MQ below (Qx G n0 (fun v N' f' => v = none ∧ N' = 42 ∧ f' = g)) args s 40 216 (fun q => n0 ≤ q)) G n0 2 (30 + 2 * i) (va_up (va_up g 3 (.inl (G.2 2, 6, .inr (.inr (.inr (.inr (RI n0 (fun j => 30 + 2 * j) i))))))) 1 (.inr (5, [.ref (n0 + 2), .ref (n0 + 3), .ref (n0 + 4), .int (jI 2), .int (jI 1), .int (jI 0), .int (jI 0)]))) (28 + 2 * i) (180 + 6 * i) 85 [some (.ref (n0 + 1)), some (.int (jI ((i : Nat) : Int)))] [] := by
    intro d
    induction d with
    | zero =>
      intro i hi
      have e : i = 6 := by omega
      subst e
      refine w_iload_n X dX5_init_85 rfl ?_
      refine w_aload_n X dX5_init_86 rfl ?_
      refine w_get X (by omega) (va_up_self _ _ _) rfl gW_X5 1 (by decide) gF_X5_19 rfl dX5_init_87 ?_
      refine w_alen X (t := 2) (by omega) ((up_ne (by omega)).trans (va_up_self _ _ _)) rfl dX5_init_90 ?_
      refine s_alen (b := 6) rfl ?_
      refine w_icmp_ge X 113 dX5_init_91 (by decide) (fun _ => ?_) (fun q => absurd (by decide) q)
      refine WW.recell (k := 3) ((up_ne (by omega)).trans (va_up_self _ _ _)) (RI_n _ _ _ _) ?_
      refine WW.eqf (show _ = g from ?_) ?_
      · rw [up_cm _ _ _ (by omega), up_up, up_id (k := 3) h3, up_id h1]
      · refine WW.widen (k := 40) (n := 216) (by omega) (by omega) ?_
        exact w_vret X hr dX5_init_113 ⟨rfl, by omega, rfl⟩
    | succ d ih =>
      intro i hi
      refine w_iload_n X dX5_init_85 rfl ?_
      refine w_aload_n X dX5_init_86 rfl ?_
      refine w_get X (by omega) (va_up_self _ _ _) rfl gW_X5 1 (by decide) gF_X5_19 rfl dX5_init_87 ?_
      refine w_alen X (t := 2) (by omega) ((up_ne (by omega)).trans (va_up_self _ _ _)) rfl dX5_init_90 ?_
      refine s_alen (b := 6) rfl ?_
      refine w_icmp_ge X 113 dX5_init_91 (by decide) (fun q => absurd q (by omega)) (fun _ => ?_)
      refine w_aload_n X dX5_init_94 rfl ?_
      refine w_get X (by omega) (va_up_self _ _ _) rfl gW_X5 1 (by decide) gF_X5_19 rfl dX5_init_95 ?_
      refine w_iload_n X dX5_init_98 rfl ?_
      refine w_new X (ci := 3) gL_X5_17 gB_X3 gN_X3 gW_X3 tyX3 tyX3_ok rfl [.null] (fun j hj => match j, hj with | 0, _ => rfl | (j + 1), hj => absurd hj (by omega)) (by show _ ≤ (40 : Nat); omega) (by show _ ≤ (216 : Nat); omega) dX5_init_99 ?_
      refine w_dup X dX5_init_102 rfl ?_
      refine i_callN X (i_X3 (l := l) (N := 30 + 2 * i + 1) (k := 30 + 2 * i) (by omega) ((up_ne (by omega)).trans ((up_ne (by omega)).trans (hb i (by omega)))) ((up_ne (by omega)).trans ((up_ne (by omega)).trans (hb2 i (by omega))))) gM_X5_23 gI_yX3_init gN_X3 gC_yX3_init rfl dX5_init_103 hl_yX3_init ⟨Nat.le_of_ble_eq_true rfl, Nat.le_of_ble_eq_true rfl⟩ ⟨by show _ ≤ (40 : Nat); omega, by show _ ≤ (216 : Nat); omega⟩ (Nat.le_of_ble_eq_true rfl) rfl ?_
      refine w_aast X (t := 2) (k := 3) (k2 := 30 + 2 * i) (by omega) (by omega) ((up_ne (by omega)).trans (va_up_self _ _ _)) rfl ((up_ne (by omega)).trans ((up_ne (by omega)).trans (hb i (by omega)))) rfl dX5_init_106 ?_
      refine WW.eqf (show _ = (va_up (va_up g 3 (.inl (G.2 2, 6, .inr (.inr (.inr (.inr (RI n0 (fun j => 30 + 2 * j) (i + 1)))))))) 1 (.inr (5, [.ref (n0 + 2), .ref (n0 + 3), .ref (n0 + 4), .int (jI 2), .int (jI 1), .int (jI 0), .int (jI 0)]))) from ?_) ?_
      · rw [up_cm _ _ _ (by omega), up_up, Int.toNat_natCast, RI_s n0 (fun j => 30 + 2 * j) i]
      · refine WW.widen (k := 28 + 2 * (i + 1)) (n := 180 + 6 * (i + 1)) (by omega) (by omega) ?_
        refine w_iinc2_1 X dX5_init_107 ?_
        refine w_goto X 85 dX5_init_110 (by decide) ?_
        exact ih (i + 1) (by omega)
  have loop1 : ∀ (d i : Nat), d + i = 12 → WW p l e { frames := 2, cells := 40, slots := 216, locals := 40 * 2 } s m args below meth c9 (MQ below (Qx G n0 (fun v N' f' => v = none ∧ N' = 42 ∧ f' = g)) args s 40 216 (fun q => n0 ≤ q)) G n0 2 (6 + 2 * i) (va_up (va_up (va_up g 2 (.inl (G.2 3, 12, .inr (.inr (.inr (.inr (RI n0 (fun j => 6 + 2 * j) i))))))) 3 (.inl (G.2 2, 6, .inr (.inr (.inr (.inr (RI n0 (fun j => 30 + 2 * j) 0))))))) 1 (.inr (5, [.ref (n0 + 2), .ref (n0 + 3), .ref (n0 + 4), .int (jI 2), .int (jI 1), .int (jI 0), .int (jI 0)]))) (4 + 2 * i) (24 + 13 * i) 55 [some (.ref (n0 + 1)), some (.int (jI ((i : Nat) : Int)))] [] := by
    intro d
    induction d with
    | zero =>
      intro i hi
      have e : i = 12 := by omega
      subst e
      refine w_iload_n X dX5_init_55 rfl ?_
      refine w_aload_n X dX5_init_56 rfl ?_
      refine w_get X (by omega) (va_up_self _ _ _) rfl gW_X5 0 (by decide) gF_X5_11 rfl dX5_init_57 ?_
      refine w_alen X (t := 3) (by omega) ((up_ne (by omega)).trans ((up_ne (by omega)).trans (va_up_self _ _ _))) rfl dX5_init_60 ?_
      refine s_alen (b := 12) rfl ?_
      refine w_icmp_ge X 83 dX5_init_61 (by decide) (fun _ => ?_) (fun q => absurd (by decide) q)
      refine WW.recell (k := 2) ((up_ne (by omega)).trans ((up_ne (by omega)).trans (va_up_self _ _ _))) (RI_n _ _ _ _) ?_
      refine WW.eqf (show _ = (va_up (va_up g 3 (.inl (G.2 2, 6, .inr (.inr (.inr (.inr (RI n0 (fun j => 30 + 2 * j) 0))))))) 1 (.inr (5, [.ref (n0 + 2), .ref (n0 + 3), .ref (n0 + 4), .int (jI 2), .int (jI 1), .int (jI 0), .int (jI 0)]))) from ?_) ?_
      · rw [up_cm _ _ _ (by omega), up_cm (va_up g 2 _) _ _ (by omega), up_up, up_id (k := 2) h2]
      · refine WW.widen (k := 28 + 2 * 0) (n := 180 + 6 * 0) (by omega) (by omega) ?_
        refine w_iconst X dX5_init_83 ?_
        refine w_ist2_1 X dX5_init_84 ?_
        exact loop2 6 0 rfl
    | succ d ih =>
      intro i hi
      refine w_iload_n X dX5_init_55 rfl ?_
      refine w_aload_n X dX5_init_56 rfl ?_
      refine w_get X (by omega) (va_up_self _ _ _) rfl gW_X5 0 (by decide) gF_X5_11 rfl dX5_init_57 ?_
      refine w_alen X (t := 3) (by omega) ((up_ne (by omega)).trans ((up_ne (by omega)).trans (va_up_self _ _ _))) rfl dX5_init_60 ?_
      refine s_alen (b := 12) rfl ?_
      refine w_icmp_ge X 83 dX5_init_61 (by decide) (fun q => absurd q (by omega)) (fun _ => ?_)
      refine w_aload_n X dX5_init_64 rfl ?_
      refine w_get X (by omega) (va_up_self _ _ _) rfl gW_X5 0 (by decide) gF_X5_11 rfl dX5_init_65 ?_
      refine w_iload_n X dX5_init_68 rfl ?_
      refine w_new X (ci := 6) gL_X5_9 gB_X6 gN_X6 gW_X6 tyX6 tyX6_ok rfl [.null, .int 0, .int 0, .int 0, .int 0, .int 0, .int 0, .int 0] (fun j hj => match j, hj with | 0, _ => rfl | 1, _ => rfl | 2, _ => rfl | 3, _ => rfl | 4, _ => rfl | 5, _ => rfl | 6, _ => rfl | 7, _ => rfl | (j + 8), hj => absurd hj (by omega)) (by show _ ≤ (40 : Nat); omega) (by show _ ≤ (216 : Nat); omega) dX5_init_69 ?_
      refine w_dup X dX5_init_72 rfl ?_
      refine i_callN X (i_X6 (l := l) (N := 6 + 2 * i + 1) (k := 6 + 2 * i) (by omega) ((up_ne (by omega)).trans ((up_ne (by omega)).trans ((up_ne (by omega)).trans (hq i (by omega))))) ((up_ne (by omega)).trans ((up_ne (by omega)).trans ((up_ne (by omega)).trans (hq2 i (by omega)))))) gM_X5_41 gI_yX6_init gN_X6 gC_yX6_init rfl dX5_init_73 hl_yX6_init ⟨Nat.le_of_ble_eq_true rfl, Nat.le_of_ble_eq_true rfl⟩ ⟨by show _ ≤ (40 : Nat); omega, by show _ ≤ (216 : Nat); omega⟩ (Nat.le_of_ble_eq_true rfl) rfl ?_
      refine w_aast X (t := 3) (k := 2) (k2 := 6 + 2 * i) (by omega) (by omega) ((up_ne (by omega)).trans ((up_ne (by omega)).trans (va_up_self _ _ _))) rfl ((up_ne (by omega)).trans ((up_ne (by omega)).trans ((up_ne (by omega)).trans (hq i (by omega))))) rfl dX5_init_76 ?_
      refine WW.eqf (show _ = (va_up (va_up (va_up g 2 (.inl (G.2 3, 12, .inr (.inr (.inr (.inr (RI n0 (fun j => 6 + 2 * j) (i + 1)))))))) 3 (.inl (G.2 2, 6, .inr (.inr (.inr (.inr (RI n0 (fun j => 30 + 2 * j) 0))))))) 1 (.inr (5, [.ref (n0 + 2), .ref (n0 + 3), .ref (n0 + 4), .int (jI 2), .int (jI 1), .int (jI 0), .int (jI 0)]))) from ?_) ?_
      · rw [up_cm _ _ _ (by omega), up_cm (va_up g 2 _) _ _ (by omega), up_up, Int.toNat_natCast, RI_s n0 (fun j => 6 + 2 * j) i]
      · refine WW.widen (k := 4 + 2 * (i + 1)) (n := 24 + 13 * (i + 1)) (by omega) (by omega) ?_
        refine w_iinc2_1 X dX5_init_77 ?_
        refine w_goto X 55 dX5_init_80 (by decide) ?_
        exact ih (i + 1) (by omega)
  refine w_aload_n X dX5_init_0 rfl ?_
  refine w_objInit X gM_X5_3 dX5_init_1 ⟨Nat.le_of_ble_eq_true rfl, Nat.le_of_ble_eq_true rfl⟩ (Nat.le_of_ble_eq_true rfl) ?_
  refine w_aload_n X dX5_init_4 rfl ?_
  refine w_bipush X dX5_init_5 rfl ?_
  refine w_newq X (n := 12) (t := 3) rfl (by decide) gL_X5_9 gA_26 rfl (by show _ ≤ (40 : Nat); omega) (by show _ ≤ (216 : Nat); omega) dX5_init_7 ?_
  refine WW.eqf (up_cm _ _ _ (by decide)) ?_
  rw [← RI_0 n0 (fun j => 6 + 2 * j)]
  refine i_putF X hname (by omega) rfl gW_X5 tyX5 tyX5_ok nmX5 0 (by decide) gF_X5_11 rfl rfl rfl rfl (Nat.le_of_ble_eq_true rfl) dX5_init_10 ?_
  refine w_aload_n X dX5_init_13 rfl ?_
  refine w_bipush X dX5_init_14 rfl ?_
  refine w_newq X (n := 6) (t := 2) rfl (by decide) gL_X5_17 gA_28 rfl (by show _ ≤ (40 : Nat); omega) (by show _ ≤ (216 : Nat); omega) dX5_init_16 ?_
  refine WW.eqf (up_cm _ _ _ (by decide)) ?_
  rw [← RI_0 n0 (fun j => 30 + 2 * j)]
  refine i_putF X hname (by omega) rfl gW_X5 tyX5 tyX5_ok nmX5 1 (by decide) gF_X5_19 rfl rfl rfl rfl (Nat.le_of_ble_eq_true rfl) dX5_init_19 ?_
  refine w_aload_n X dX5_init_22 rfl ?_
  refine w_new X (ci := 3) gL_X5_17 gB_X3 gN_X3 gW_X3 tyX3 tyX3_ok rfl [.null] (fun j hj => match j, hj with | 0, _ => rfl | (j + 1), hj => absurd hj (by omega)) (by show _ ≤ (40 : Nat); omega) (by show _ ≤ (216 : Nat); omega) dX5_init_23 ?_
  refine w_dup X dX5_init_26 rfl ?_
  refine i_callN X (i_X3 (l := l) (N := 5) (k := 4) (by decide) ((up_ne (by omega)).trans ((up_ne (by omega)).trans ((up_ne (by omega)).trans h4))) ((up_ne (by omega)).trans ((up_ne (by omega)).trans ((up_ne (by omega)).trans h5)))) gM_X5_23 gI_yX3_init gN_X3 gC_yX3_init rfl dX5_init_27 hl_yX3_init ⟨Nat.le_of_ble_eq_true rfl, Nat.le_of_ble_eq_true rfl⟩ ⟨by show _ ≤ (40 : Nat); omega, by show _ ≤ (216 : Nat); omega⟩ (Nat.le_of_ble_eq_true rfl) rfl ?_
  refine i_putF X hname (by omega) rfl gW_X5 tyX5 tyX5_ok nmX5 2 (by decide) gF_X5_24 rfl rfl rfl rfl (Nat.le_of_ble_eq_true rfl) dX5_init_30 ?_
  refine w_aload_n X dX5_init_33 rfl ?_
  refine w_iconst X dX5_init_34 ?_
  refine i_put X (by omega) rfl gW_X5 tyX5 tyX5_ok nmX5 3 (by decide) gF_X5_28 rfl rfl rfl (Nat.le_of_ble_eq_true rfl) dX5_init_35 ?_
  refine w_aload_n X dX5_init_38 rfl ?_
  refine w_iconst X dX5_init_39 ?_
  refine i_put X (by omega) rfl gW_X5 tyX5 tyX5_ok nmX5 4 (by decide) gF_X5_32 rfl rfl rfl (Nat.le_of_ble_eq_true rfl) dX5_init_40 ?_
  refine w_aload_n X dX5_init_43 rfl ?_
  refine w_iconst X dX5_init_44 ?_
  refine i_put X (by omega) rfl gW_X5 tyX5 tyX5_ok nmX5 5 (by decide) gF_X5_35 rfl rfl rfl (Nat.le_of_ble_eq_true rfl) dX5_init_45 ?_
  refine w_aload_n X dX5_init_48 rfl ?_
  refine w_iconst X dX5_init_49 ?_
  refine i_put X (by omega) rfl gW_X5 tyX5 tyX5_ok nmX5 6 (by decide) gF_X5_38 rfl rfl rfl (Nat.le_of_ble_eq_true rfl) dX5_init_50 ?_
  refine w_iconst X dX5_init_53 ?_
  refine w_ist2_1 X dX5_init_54 ?_
  exact WW.widen (k := 4 + 2 * 0) (n := 24 + 13 * 0) (by omega) (by omega) (loop1 12 0 rfl)
set_option maxRecDepth 20000 in
set_option maxHeartbeats 4000000 in
theorem i_X0 {l : Launch} {G : Gt} {n0 : Nat} {g : Nat → va_E} (h44 : g 44 = .inr (0, [.ref (n0 + 1), .ref (n0 + 45), .ref (n0 + 47), .ref (n0 + 49), .ref (n0 + 51), .ref (n0 + 256), .int (jI (-3))])) (h45 : g 45 = .inr (2, [.ref (n0 + 46)])) (h46 : g 46 = .inl (G.2 0, 1200, .inl (fun _ => 0))) (h47 : g 47 = .inr (3, [.ref (n0 + 48)])) (h48 : g 48 = .inl (G.2 0, 5, .inl (fun _ => 0))) (h49 : g 49 = .inr (3, [.ref (n0 + 50)])) (h50 : g 50 = .inl (G.2 0, 5, .inl (fun _ => 0))) (b510 : g 51 = .inr (1, [.ref (n0 + (51 + 1)), .ref (n0 + (51 + 2)), .int (jI 0), .int (jI 0)])) (b511 : g (51 + 1) = .inl (G.2 2, 101, .inr (.inr (.inr (.inr (fun j => some (n0 + (51 + 3 + 2 * j)))))))) (b512 : g (51 + 2) = .inl (G.2 1, 101, .inl (fun _ => 0))) (b513 : ∀ i : Nat, i < 101 → g (51 + 3 + 2 * i) = .inr (3, [.ref (n0 + (51 + 3 + 2 * i + 1))])) (b514 : ∀ i : Nat, i < 101 → g (51 + 3 + 2 * i + 1) = .inl (G.2 0, 5, .inl (fun _ => 0))) (b2560 : g 256 = .inr (1, [.ref (n0 + (256 + 1)), .ref (n0 + (256 + 2)), .int (jI 0), .int (jI 0)])) (b2561 : g (256 + 1) = .inl (G.2 2, 101, .inr (.inr (.inr (.inr (fun j => some (n0 + (256 + 3 + 2 * j)))))))) (b2562 : g (256 + 2) = .inl (G.2 1, 101, .inl (fun _ => 0))) (b2563 : ∀ i : Nat, i < 101 → g (256 + 3 + 2 * i) = .inr (3, [.ref (n0 + (256 + 3 + 2 * i + 1))])) (b2564 : ∀ i : Nat, i < 101 → g (256 + 3 + 2 * i + 1) = .inl (G.2 0, 5, .inl (fun _ => 0))) : In l yX0_init cX0_init 2 3 416 2837 G n0 [.ref (n0 + 44), .ref (n0 + 1)] 45 (va_up g 44 (.inr (0, [.null, .null, .null, .null, .null, .null, .int 0]))) 461 g := by
  refine Ct_of (by decide +kernel) (by intro v hv; simp at hv; rcases hv with rfl | rfl <;> rfl) (Nat.le_of_ble_eq_true rfl) ?_
  intro p e s m args below meth c9 X hr hname
  have hname : meth.name = "<init>" := hname
  refine w_aload_n X dX0_init_0 rfl ?_
  refine w_objInit X gM_X0_3 dX0_init_1 ⟨Nat.le_of_ble_eq_true rfl, Nat.le_of_ble_eq_true rfl⟩ (Nat.le_of_ble_eq_true rfl) ?_
  refine w_aload_n X dX0_init_4 rfl ?_
  refine w_new X (ci := 2) gL_X0_9 gB_X2 gN_X2 gW_X2 tyX2 tyX2_ok rfl [.null] (fun j hj => match j, hj with | 0, _ => rfl | (j + 1), hj => absurd hj (by omega)) (by show _ ≤ (416 : Nat); omega) (by show _ ≤ (2837 : Nat); omega) dX0_init_5 ?_
  refine w_dup X dX0_init_8 rfl ?_
  refine w_sipush X dX0_init_9 rfl ?_
  refine i_newi X (n := 1200) ((up_ne (by omega)).trans ((up_ne (by omega)).trans h46)) rfl (by decide) (by show _ ≤ (416 : Nat); omega) (by show _ ≤ (2837 : Nat); omega) dX0_init_12 ?_
  refine i_call X (i_X2 (l := l) (N := 47) (k := 45) (a := 46) (by decide) ((up_ne (by omega)).trans h45)) gM_X0_11 gI_yX2_init gN_X2 gC_yX2_init rfl dX0_init_14 hl_yX2_init ⟨Nat.le_of_ble_eq_true rfl, Nat.le_of_ble_eq_true rfl⟩ ⟨by show _ ≤ (416 : Nat); omega, by show _ ≤ (2837 : Nat); omega⟩ (Nat.le_of_ble_eq_true rfl) rfl ?_
  refine i_putF X hname (by omega) rfl gW_X0 tyX0 tyX0_ok nmX0 1 (by decide) gF_X0_14 rfl rfl rfl rfl (Nat.le_of_ble_eq_true rfl) dX0_init_17 ?_
  refine w_aload_n X dX0_init_20 rfl ?_
  refine w_new X (ci := 3) gL_X0_20 gB_X3 gN_X3 gW_X3 tyX3 tyX3_ok rfl [.null] (fun j hj => match j, hj with | 0, _ => rfl | (j + 1), hj => absurd hj (by omega)) (by show _ ≤ (416 : Nat); omega) (by show _ ≤ (2837 : Nat); omega) dX0_init_21 ?_
  refine w_dup X dX0_init_24 rfl ?_
  refine i_callN X (i_X3 (l := l) (N := 48) (k := 47) (by decide) ((up_ne (by omega)).trans h47) ((up_ne (by omega)).trans h48)) gM_X0_22 gI_yX3_init gN_X3 gC_yX3_init rfl dX0_init_25 hl_yX3_init ⟨Nat.le_of_ble_eq_true rfl, Nat.le_of_ble_eq_true rfl⟩ ⟨by show _ ≤ (416 : Nat); omega, by show _ ≤ (2837 : Nat); omega⟩ (Nat.le_of_ble_eq_true rfl) rfl ?_
  refine i_putF X hname (by omega) rfl gW_X0 tyX0 tyX0_ok nmX0 2 (by decide) gF_X0_23 rfl rfl rfl rfl (Nat.le_of_ble_eq_true rfl) dX0_init_28 ?_
  refine w_aload_n X dX0_init_31 rfl ?_
  refine w_new X (ci := 3) gL_X0_20 gB_X3 gN_X3 gW_X3 tyX3 tyX3_ok rfl [.null] (fun j hj => match j, hj with | 0, _ => rfl | (j + 1), hj => absurd hj (by omega)) (by show _ ≤ (416 : Nat); omega) (by show _ ≤ (2837 : Nat); omega) dX0_init_32 ?_
  refine w_dup X dX0_init_35 rfl ?_
  refine i_callN X (i_X3 (l := l) (N := 50) (k := 49) (by decide) ((up_ne (by omega)).trans h49) ((up_ne (by omega)).trans h50)) gM_X0_22 gI_yX3_init gN_X3 gC_yX3_init rfl dX0_init_36 hl_yX3_init ⟨Nat.le_of_ble_eq_true rfl, Nat.le_of_ble_eq_true rfl⟩ ⟨by show _ ≤ (416 : Nat); omega, by show _ ≤ (2837 : Nat); omega⟩ (Nat.le_of_ble_eq_true rfl) rfl ?_
  refine i_putF X hname (by omega) rfl gW_X0 tyX0 tyX0_ok nmX0 3 (by decide) gF_X0_27 rfl rfl rfl rfl (Nat.le_of_ble_eq_true rfl) dX0_init_39 ?_
  refine w_aload_n X dX0_init_42 rfl ?_
  refine w_new X (ci := 1) gL_X0_30 gB_X1 gN_X1 gW_X1 tyX1 tyX1_ok rfl [.null, .null, .int 0, .int 0] (fun j hj => match j, hj with | 0, _ => rfl | 1, _ => rfl | 2, _ => rfl | 3, _ => rfl | (j + 4), hj => absurd hj (by omega)) (by show _ ≤ (416 : Nat); omega) (by show _ ≤ (2837 : Nat); omega) dX0_init_43 ?_
  refine w_dup X dX0_init_46 rfl ?_
  refine i_call X (i_X1 (l := l) (k := 51) ((up_ne (by omega)).trans b510) ((up_ne (by omega)).trans b511) ((up_ne (by omega)).trans b512) (fun i hi => ((up_ne (by omega)).trans (b513 i hi))) (fun i hi => ((up_ne (by omega)).trans (b514 i hi)))) gM_X0_32 gI_yX1_init gN_X1 gC_yX1_init rfl dX0_init_47 hl_yX1_init ⟨Nat.le_of_ble_eq_true rfl, Nat.le_of_ble_eq_true rfl⟩ ⟨by show _ ≤ (416 : Nat); omega, by show _ ≤ (2837 : Nat); omega⟩ (Nat.le_of_ble_eq_true rfl) rfl ?_
  refine i_put X (by omega) rfl gW_X0 tyX0 tyX0_ok nmX0 4 (by decide) gF_X0_33 rfl rfl rfl (Nat.le_of_ble_eq_true rfl) dX0_init_50 ?_
  refine w_aload_n X dX0_init_53 rfl ?_
  refine w_new X (ci := 1) gL_X0_30 gB_X1 gN_X1 gW_X1 tyX1 tyX1_ok rfl [.null, .null, .int 0, .int 0] (fun j hj => match j, hj with | 0, _ => rfl | 1, _ => rfl | 2, _ => rfl | 3, _ => rfl | (j + 4), hj => absurd hj (by omega)) (by show _ ≤ (416 : Nat); omega) (by show _ ≤ (2837 : Nat); omega) dX0_init_54 ?_
  refine w_dup X dX0_init_57 rfl ?_
  refine i_call X (i_X1 (l := l) (k := 256) ((up_ne (by omega)).trans b2560) ((up_ne (by omega)).trans b2561) ((up_ne (by omega)).trans b2562) (fun i hi => ((up_ne (by omega)).trans (b2563 i hi))) (fun i hi => ((up_ne (by omega)).trans (b2564 i hi)))) gM_X0_32 gI_yX1_init gN_X1 gC_yX1_init rfl dX0_init_58 hl_yX1_init ⟨Nat.le_of_ble_eq_true rfl, Nat.le_of_ble_eq_true rfl⟩ ⟨by show _ ≤ (416 : Nat); omega, by show _ ≤ (2837 : Nat); omega⟩ (Nat.le_of_ble_eq_true rfl) rfl ?_
  refine i_put X (by omega) rfl gW_X0 tyX0 tyX0_ok nmX0 5 (by decide) gF_X0_37 rfl rfl rfl (Nat.le_of_ble_eq_true rfl) dX0_init_61 ?_
  refine w_aload_n X dX0_init_64 rfl ?_
  refine w_bipush X dX0_init_65 rfl ?_
  refine i_put X (by omega) rfl gW_X0 tyX0 tyX0_ok nmX0 6 (by decide) gF_X0_40 rfl rfl rfl (Nat.le_of_ble_eq_true rfl) dX0_init_67 ?_
  refine w_aload_n X dX0_init_70 rfl ?_
  refine w_aload_n X dX0_init_71 rfl ?_
  refine i_putF X hname (by omega) rfl gW_X0 tyX0 tyX0_ok nmX0 0 (by decide) gF_X0_44 rfl rfl rfl rfl (Nat.le_of_ble_eq_true rfl) dX0_init_72 ?_
  refine WW.eqf (up_id h44) ?_
  exact w_vret X hr dX0_init_75 ⟨rfl, rfl, rfl⟩
set_option maxRecDepth 20000 in
set_option maxHeartbeats 4000000 in
theorem i_X4 {l : Launch} {G : Gt} {n0 : Nat} {g : Nat → va_E} (h461 : g 461 = .inr (4, [.ref (n0 + 1), .ref (n0 + 462), .ref (n0 + 464), .ref (n0 + 466), .ref (n0 + 467), .ref (n0 + 468), .ref (n0 + 469), .ref (n0 + 471), .ref (n0 + 472), .int (jI (-9)), .int (jI 0), .int (jI 0), .int (jI (-9))])) (h462 : g 462 = .inr (3, [.ref (n0 + 463)])) (h463 : g 463 = .inl (G.2 0, 5, .inl (fun _ => 0))) (h464 : g 464 = .inr (3, [.ref (n0 + 465)])) (h465 : g 465 = .inl (G.2 0, 5, .inl (fun _ => 0))) (h466 : g 466 = .inl (G.2 0, 495, .inl (fun _ => 0))) (h467 : g 467 = .inl (G.2 0, 495, .inl (fun _ => 0))) (h468 : g 468 = .inl (G.2 0, 495, .inl (fun _ => 0))) (h472 : g 472 = .inl (G.2 0, 495, .inl (fun _ => 0))) (h469 : g 469 = .inr (2, [.ref (n0 + 470)])) (h470 : g 470 = .inl (G.2 0, 5940, .inl (fun _ => 0))) (h471 : g 471 = .inl (G.2 1, 495, .inl (fun _ => 0))) : In l yX4_init cX4_init 2 2 11 8428 G n0 [.ref (n0 + 461), .ref (n0 + 1)] 462 (va_up g 461 (.inr (4, [.null, .null, .null, .null, .null, .null, .null, .null, .null, .int 0, .int 0, .int 0, .int 0]))) 473 g := by
  refine Ct_of (by decide +kernel) (by intro v hv; simp at hv; rcases hv with rfl | rfl <;> rfl) (Nat.le_of_ble_eq_true rfl) ?_
  intro p e s m args below meth c9 X hr hname
  have hname : meth.name = "<init>" := hname
  refine w_aload_n X dX4_init_0 rfl ?_
  refine w_objInit X gM_X4_3 dX4_init_1 ⟨Nat.le_of_ble_eq_true rfl, Nat.le_of_ble_eq_true rfl⟩ (Nat.le_of_ble_eq_true rfl) ?_
  refine w_aload_n X dX4_init_4 rfl ?_
  refine w_new X (ci := 3) gL_X4_9 gB_X3 gN_X3 gW_X3 tyX3 tyX3_ok rfl [.null] (fun j hj => match j, hj with | 0, _ => rfl | (j + 1), hj => absurd hj (by omega)) (by show _ ≤ (11 : Nat); omega) (by show _ ≤ (8428 : Nat); omega) dX4_init_5 ?_
  refine w_dup X dX4_init_8 rfl ?_
  refine i_callN X (i_X3 (l := l) (N := 463) (k := 462) (by decide) ((up_ne (by omega)).trans h462) ((up_ne (by omega)).trans h463)) gM_X4_11 gI_yX3_init gN_X3 gC_yX3_init rfl dX4_init_9 hl_yX3_init ⟨Nat.le_of_ble_eq_true rfl, Nat.le_of_ble_eq_true rfl⟩ ⟨by show _ ≤ (11 : Nat); omega, by show _ ≤ (8428 : Nat); omega⟩ (Nat.le_of_ble_eq_true rfl) rfl ?_
  refine i_putF X hname (by omega) rfl gW_X4 tyX4 tyX4_ok nmX4 1 (by decide) gF_X4_12 rfl rfl rfl rfl (Nat.le_of_ble_eq_true rfl) dX4_init_12 ?_
  refine w_aload_n X dX4_init_15 rfl ?_
  refine w_new X (ci := 3) gL_X4_9 gB_X3 gN_X3 gW_X3 tyX3 tyX3_ok rfl [.null] (fun j hj => match j, hj with | 0, _ => rfl | (j + 1), hj => absurd hj (by omega)) (by show _ ≤ (11 : Nat); omega) (by show _ ≤ (8428 : Nat); omega) dX4_init_16 ?_
  refine w_dup X dX4_init_19 rfl ?_
  refine i_callN X (i_X3 (l := l) (N := 465) (k := 464) (by decide) ((up_ne (by omega)).trans h464) ((up_ne (by omega)).trans h465)) gM_X4_11 gI_yX3_init gN_X3 gC_yX3_init rfl dX4_init_20 hl_yX3_init ⟨Nat.le_of_ble_eq_true rfl, Nat.le_of_ble_eq_true rfl⟩ ⟨by show _ ≤ (11 : Nat); omega, by show _ ≤ (8428 : Nat); omega⟩ (Nat.le_of_ble_eq_true rfl) rfl ?_
  refine i_putF X hname (by omega) rfl gW_X4 tyX4 tyX4_ok nmX4 2 (by decide) gF_X4_18 rfl rfl rfl rfl (Nat.le_of_ble_eq_true rfl) dX4_init_23 ?_
  refine w_aload_n X dX4_init_26 rfl ?_
  refine w_sipush X dX4_init_27 rfl ?_
  refine i_newi X (n := 495) ((up_ne (by omega)).trans h466) rfl (by decide) (by show _ ≤ (11 : Nat); omega) (by show _ ≤ (8428 : Nat); omega) dX4_init_30 ?_
  refine i_putF X hname (by omega) rfl gW_X4 tyX4 tyX4_ok nmX4 3 (by decide) gF_X4_21 rfl rfl rfl rfl (Nat.le_of_ble_eq_true rfl) dX4_init_32 ?_
  refine w_aload_n X dX4_init_35 rfl ?_
  refine w_sipush X dX4_init_36 rfl ?_
  refine i_newi X (n := 495) ((up_ne (by omega)).trans h467) rfl (by decide) (by show _ ≤ (11 : Nat); omega) (by show _ ≤ (8428 : Nat); omega) dX4_init_39 ?_
  refine i_putF X hname (by omega) rfl gW_X4 tyX4 tyX4_ok nmX4 4 (by decide) gF_X4_25 rfl rfl rfl rfl (Nat.le_of_ble_eq_true rfl) dX4_init_41 ?_
  refine w_aload_n X dX4_init_44 rfl ?_
  refine w_sipush X dX4_init_45 rfl ?_
  refine i_newi X (n := 495) ((up_ne (by omega)).trans h468) rfl (by decide) (by show _ ≤ (11 : Nat); omega) (by show _ ≤ (8428 : Nat); omega) dX4_init_48 ?_
  refine i_putF X hname (by omega) rfl gW_X4 tyX4 tyX4_ok nmX4 5 (by decide) gF_X4_28 rfl rfl rfl rfl (Nat.le_of_ble_eq_true rfl) dX4_init_50 ?_
  refine w_aload_n X dX4_init_53 rfl ?_
  refine w_new X (ci := 2) gL_X4_31 gB_X2 gN_X2 gW_X2 tyX2 tyX2_ok rfl [.null] (fun j hj => match j, hj with | 0, _ => rfl | (j + 1), hj => absurd hj (by omega)) (by show _ ≤ (11 : Nat); omega) (by show _ ≤ (8428 : Nat); omega) dX4_init_54 ?_
  refine w_dup X dX4_init_57 rfl ?_
  refine w_sipush X dX4_init_58 rfl ?_
  refine i_newi X (n := 5940) ((up_ne (by omega)).trans ((up_ne (by omega)).trans h470)) rfl (by decide) (by show _ ≤ (11 : Nat); omega) (by show _ ≤ (8428 : Nat); omega) dX4_init_61 ?_
  refine i_call X (i_X2 (l := l) (N := 471) (k := 469) (a := 470) (by decide) ((up_ne (by omega)).trans h469)) gM_X4_33 gI_yX2_init gN_X2 gC_yX2_init rfl dX4_init_63 hl_yX2_init ⟨Nat.le_of_ble_eq_true rfl, Nat.le_of_ble_eq_true rfl⟩ ⟨by show _ ≤ (11 : Nat); omega, by show _ ≤ (8428 : Nat); omega⟩ (Nat.le_of_ble_eq_true rfl) rfl ?_
  refine i_putF X hname (by omega) rfl gW_X4 tyX4 tyX4_ok nmX4 6 (by decide) gF_X4_36 rfl rfl rfl rfl (Nat.le_of_ble_eq_true rfl) dX4_init_66 ?_
  refine w_aload_n X dX4_init_69 rfl ?_
  refine w_sipush X dX4_init_70 rfl ?_
  refine i_newz X (n := 495) ((up_ne (by omega)).trans h471) rfl (by decide) (by show _ ≤ (11 : Nat); omega) (by show _ ≤ (8428 : Nat); omega) dX4_init_73 ?_
  refine i_putF X hname (by omega) rfl gW_X4 tyX4 tyX4_ok nmX4 7 (by decide) gF_X4_40 rfl rfl rfl rfl (Nat.le_of_ble_eq_true rfl) dX4_init_75 ?_
  refine w_aload_n X dX4_init_78 rfl ?_
  refine w_sipush X dX4_init_79 rfl ?_
  refine i_newi X (n := 495) ((up_ne (by omega)).trans h472) rfl (by decide) (by show _ ≤ (11 : Nat); omega) (by show _ ≤ (8428 : Nat); omega) dX4_init_82 ?_
  refine i_putF X hname (by omega) rfl gW_X4 tyX4 tyX4_ok nmX4 8 (by decide) gF_X4_44 rfl rfl rfl rfl (Nat.le_of_ble_eq_true rfl) dX4_init_84 ?_
  refine w_aload_n X dX4_init_87 rfl ?_
  refine w_bipush X dX4_init_88 rfl ?_
  refine i_put X (by omega) rfl gW_X4 tyX4 tyX4_ok nmX4 9 (by decide) gF_X4_47 rfl rfl rfl (Nat.le_of_ble_eq_true rfl) dX4_init_90 ?_
  refine w_aload_n X dX4_init_93 rfl ?_
  refine w_iconst X dX4_init_94 ?_
  refine i_put X (by omega) rfl gW_X4 tyX4 tyX4_ok nmX4 10 (by decide) gF_X4_51 rfl rfl rfl (Nat.le_of_ble_eq_true rfl) dX4_init_95 ?_
  refine w_aload_n X dX4_init_98 rfl ?_
  refine w_iconst X dX4_init_99 ?_
  refine i_put X (by omega) rfl gW_X4 tyX4 tyX4_ok nmX4 11 (by decide) gF_X4_54 rfl rfl rfl (Nat.le_of_ble_eq_true rfl) dX4_init_100 ?_
  refine w_aload_n X dX4_init_103 rfl ?_
  refine w_bipush X dX4_init_104 rfl ?_
  refine i_put X (by omega) rfl gW_X4 tyX4 tyX4_ok nmX4 12 (by decide) gF_X4_57 rfl rfl rfl (Nat.le_of_ble_eq_true rfl) dX4_init_106 ?_
  refine w_aload_n X dX4_init_109 rfl ?_
  refine w_aload_n X dX4_init_110 rfl ?_
  refine i_putF X hname (by omega) rfl gW_X4 tyX4 tyX4_ok nmX4 0 (by decide) gF_X4_60 rfl rfl rfl rfl (Nat.le_of_ble_eq_true rfl) dX4_init_111 ?_
  refine WW.eqf (up_id h461) ?_
  exact w_vret X hr dX4_init_114 ⟨rfl, rfl, rfl⟩
set_option maxRecDepth 20000 in
set_option maxHeartbeats 4000000 in
theorem i_X8 {l : Launch} {G : Gt} {n0 : Nat} {g : Nat → va_E} (h473 : g 473 = .inr (8, [.int (jI 0), .int (jI 2), .int (jI 1), .int (jI 0), .ref (n0 + 474), .ref (n0 + 475), .ref (n0 + 476), .ref (n0 + 477), .ref (n0 + 478), .ref (n0 + 479), .ref (n0 + 480), .int (jI 0), .ref (n0 + 481), .ref (n0 + 482), .int (jI 0), .int (jI 0), .int (jI 0), .ref (n0 + 483), .int (jI 0), .ref (n0 + 484), .ref (n0 + 485), .ref (n0 + 486), .ref (n0 + 487), .int (jI 0), .ref (n0 + 488), .ref (n0 + 489), .ref (n0 + 490), .ref (n0 + 491)])) (h474 : g 474 = .inl (G.2 0, 12, .inl (fun _ => 0))) (h475 : g 475 = .inl (G.2 0, 12, .inl (fun _ => 0))) (h476 : g 476 = .inl (G.2 0, 12, .inl (fun _ => 0))) (h477 : g 477 = .inl (G.2 0, 12, .inl (fun _ => 0))) (h478 : g 478 = .inl (G.2 0, 12, .inl (fun _ => 0))) (h479 : g 479 = .inl (G.2 0, 12, .inl (fun _ => 0))) (h480 : g 480 = .inl (G.2 0, 12, .inl (fun _ => 0))) (h481 : g 481 = .inl (G.2 0, 30, .inl (fun _ => 0))) (h482 : g 482 = .inl (G.2 0, 5, .inl (fun _ => 0))) (h483 : g 483 = .inl (G.2 0, 505, .inl (fun _ => 0))) (h484 : g 484 = .inl (G.2 0, 505, .inl (fun _ => 0))) (h485 : g 485 = .inl (G.2 0, 5, .inl (fun _ => 0))) (h486 : g 486 = .inl (G.2 0, 5, .inl (fun _ => 0))) (h487 : g 487 = .inl (G.2 0, 5, .inl (fun _ => 0))) (h488 : g 488 = .inl (G.2 0, 500, .inl (fun _ => 0))) (h489 : g 489 = .inl (G.2 0, 59049, .inl (fun _ => 0))) (h490 : g 490 = .inl (G.2 0, 500, .inl (fun _ => 0))) (h491 : g 491 = .inl (G.2 1, 500, .inl (fun _ => 0))) : In l yX8_init cX8_init 1 1 18 61693 G n0 [.ref (n0 + 473)] 474 (va_up g 473 (.inr (8, [.int 0, .int 0, .int 0, .int 0, .null, .null, .null, .null, .null, .null, .null, .int 0, .null, .null, .int 0, .int 0, .int 0, .null, .int 0, .null, .null, .null, .null, .int 0, .null, .null, .null, .null]))) 492 g := by
  refine Ct_of (by decide +kernel) (by intro v hv; simp at hv; rcases hv with rfl <;> rfl) (Nat.le_of_ble_eq_true rfl) ?_
  intro p e s m args below meth c9 X hr hname
  have hname : meth.name = "<init>" := hname
  refine w_aload_n X dX8_init_0 rfl ?_
  refine w_objInit X gM_X8_1 dX8_init_1 ⟨Nat.le_of_ble_eq_true rfl, Nat.le_of_ble_eq_true rfl⟩ (Nat.le_of_ble_eq_true rfl) ?_
  refine w_aload_n X dX8_init_4 rfl ?_
  refine w_iconst X dX8_init_5 ?_
  refine i_put' X (fs' := [.int 0, .int (jI 2), .int 0, .int 0, .null, .null, .null, .null, .null, .null, .null, .int 0, .null, .null, .int 0, .int 0, .int 0, .null, .int 0, .null, .null, .null, .null, .int 0, .null, .null, .null, .null]) (by omega) rfl gW_X8 tyX8 tyX8_ok nmX8 1 (by decide) gF_X8_7 rfl rfl rfl (Nat.le_of_ble_eq_true rfl) rfl dX8_init_6 ?_
  refine w_aload_n X dX8_init_9 rfl ?_
  refine w_iconst X dX8_init_10 ?_
  refine i_put' X (fs' := [.int 0, .int (jI 2), .int (jI 1), .int 0, .null, .null, .null, .null, .null, .null, .null, .int 0, .null, .null, .int 0, .int 0, .int 0, .null, .int 0, .null, .null, .null, .null, .int 0, .null, .null, .null, .null]) (by omega) rfl gW_X8 tyX8 tyX8_ok nmX8 2 (by decide) gF_X8_13 rfl rfl rfl (Nat.le_of_ble_eq_true rfl) rfl dX8_init_11 ?_
  refine w_aload_n X dX8_init_14 rfl ?_
  refine w_bipush X dX8_init_15 rfl ?_
  refine i_newi X (n := 12) ((up_ne (by omega)).trans h474) rfl (by decide) (by show _ ≤ (18 : Nat); omega) (by show _ ≤ (61693 : Nat); omega) dX8_init_17 ?_
  refine i_putF' X hname (fs' := [.int 0, .int (jI 2), .int (jI 1), .int 0, .ref (n0 + 474), .null, .null, .null, .null, .null, .null, .int 0, .null, .null, .int 0, .int 0, .int 0, .null, .int 0, .null, .null, .null, .null, .int 0, .null, .null, .null, .null]) (by omega) rfl gW_X8 tyX8 tyX8_ok nmX8 4 (by decide) gF_X8_16 rfl rfl rfl rfl (Nat.le_of_ble_eq_true rfl) rfl dX8_init_19 ?_
  refine w_aload_n X dX8_init_22 rfl ?_
  refine w_bipush X dX8_init_23 rfl ?_
  refine i_newi X (n := 12) ((up_ne (by omega)).trans h475) rfl (by decide) (by show _ ≤ (18 : Nat); omega) (by show _ ≤ (61693 : Nat); omega) dX8_init_25 ?_
  refine i_putF' X hname (fs' := [.int 0, .int (jI 2), .int (jI 1), .int 0, .ref (n0 + 474), .ref (n0 + 475), .null, .null, .null, .null, .null, .int 0, .null, .null, .int 0, .int 0, .int 0, .null, .int 0, .null, .null, .null, .null, .int 0, .null, .null, .null, .null]) (by omega) rfl gW_X8 tyX8 tyX8_ok nmX8 5 (by decide) gF_X8_20 rfl rfl rfl rfl (Nat.le_of_ble_eq_true rfl) rfl dX8_init_27 ?_
  refine w_aload_n X dX8_init_30 rfl ?_
  refine w_bipush X dX8_init_31 rfl ?_
  refine i_newi X (n := 12) ((up_ne (by omega)).trans h476) rfl (by decide) (by show _ ≤ (18 : Nat); omega) (by show _ ≤ (61693 : Nat); omega) dX8_init_33 ?_
  refine i_putF' X hname (fs' := [.int 0, .int (jI 2), .int (jI 1), .int 0, .ref (n0 + 474), .ref (n0 + 475), .ref (n0 + 476), .null, .null, .null, .null, .int 0, .null, .null, .int 0, .int 0, .int 0, .null, .int 0, .null, .null, .null, .null, .int 0, .null, .null, .null, .null]) (by omega) rfl gW_X8 tyX8 tyX8_ok nmX8 6 (by decide) gF_X8_23 rfl rfl rfl rfl (Nat.le_of_ble_eq_true rfl) rfl dX8_init_35 ?_
  refine w_aload_n X dX8_init_38 rfl ?_
  refine w_bipush X dX8_init_39 rfl ?_
  refine i_newi X (n := 12) ((up_ne (by omega)).trans h477) rfl (by decide) (by show _ ≤ (18 : Nat); omega) (by show _ ≤ (61693 : Nat); omega) dX8_init_41 ?_
  refine i_putF' X hname (fs' := [.int 0, .int (jI 2), .int (jI 1), .int 0, .ref (n0 + 474), .ref (n0 + 475), .ref (n0 + 476), .ref (n0 + 477), .null, .null, .null, .int 0, .null, .null, .int 0, .int 0, .int 0, .null, .int 0, .null, .null, .null, .null, .int 0, .null, .null, .null, .null]) (by omega) rfl gW_X8 tyX8 tyX8_ok nmX8 7 (by decide) gF_X8_26 rfl rfl rfl rfl (Nat.le_of_ble_eq_true rfl) rfl dX8_init_43 ?_
  refine w_aload_n X dX8_init_46 rfl ?_
  refine w_bipush X dX8_init_47 rfl ?_
  refine i_newi X (n := 12) ((up_ne (by omega)).trans h478) rfl (by decide) (by show _ ≤ (18 : Nat); omega) (by show _ ≤ (61693 : Nat); omega) dX8_init_49 ?_
  refine i_putF' X hname (fs' := [.int 0, .int (jI 2), .int (jI 1), .int 0, .ref (n0 + 474), .ref (n0 + 475), .ref (n0 + 476), .ref (n0 + 477), .ref (n0 + 478), .null, .null, .int 0, .null, .null, .int 0, .int 0, .int 0, .null, .int 0, .null, .null, .null, .null, .int 0, .null, .null, .null, .null]) (by omega) rfl gW_X8 tyX8 tyX8_ok nmX8 8 (by decide) gF_X8_29 rfl rfl rfl rfl (Nat.le_of_ble_eq_true rfl) rfl dX8_init_51 ?_
  refine w_aload_n X dX8_init_54 rfl ?_
  refine w_bipush X dX8_init_55 rfl ?_
  refine i_newi X (n := 12) ((up_ne (by omega)).trans h479) rfl (by decide) (by show _ ≤ (18 : Nat); omega) (by show _ ≤ (61693 : Nat); omega) dX8_init_57 ?_
  refine i_putF' X hname (fs' := [.int 0, .int (jI 2), .int (jI 1), .int 0, .ref (n0 + 474), .ref (n0 + 475), .ref (n0 + 476), .ref (n0 + 477), .ref (n0 + 478), .ref (n0 + 479), .null, .int 0, .null, .null, .int 0, .int 0, .int 0, .null, .int 0, .null, .null, .null, .null, .int 0, .null, .null, .null, .null]) (by omega) rfl gW_X8 tyX8 tyX8_ok nmX8 9 (by decide) gF_X8_32 rfl rfl rfl rfl (Nat.le_of_ble_eq_true rfl) rfl dX8_init_59 ?_
  refine w_aload_n X dX8_init_62 rfl ?_
  refine w_bipush X dX8_init_63 rfl ?_
  refine i_newi X (n := 12) ((up_ne (by omega)).trans h480) rfl (by decide) (by show _ ≤ (18 : Nat); omega) (by show _ ≤ (61693 : Nat); omega) dX8_init_65 ?_
  refine i_putF' X hname (fs' := [.int 0, .int (jI 2), .int (jI 1), .int 0, .ref (n0 + 474), .ref (n0 + 475), .ref (n0 + 476), .ref (n0 + 477), .ref (n0 + 478), .ref (n0 + 479), .ref (n0 + 480), .int 0, .null, .null, .int 0, .int 0, .int 0, .null, .int 0, .null, .null, .null, .null, .int 0, .null, .null, .null, .null]) (by omega) rfl gW_X8 tyX8 tyX8_ok nmX8 10 (by decide) gF_X8_35 rfl rfl rfl rfl (Nat.le_of_ble_eq_true rfl) rfl dX8_init_67 ?_
  refine w_aload_n X dX8_init_70 rfl ?_
  refine w_bipush X dX8_init_71 rfl ?_
  refine i_newi X (n := 30) ((up_ne (by omega)).trans h481) rfl (by decide) (by show _ ≤ (18 : Nat); omega) (by show _ ≤ (61693 : Nat); omega) dX8_init_73 ?_
  refine i_putF' X hname (fs' := [.int 0, .int (jI 2), .int (jI 1), .int 0, .ref (n0 + 474), .ref (n0 + 475), .ref (n0 + 476), .ref (n0 + 477), .ref (n0 + 478), .ref (n0 + 479), .ref (n0 + 480), .int 0, .ref (n0 + 481), .null, .int 0, .int 0, .int 0, .null, .int 0, .null, .null, .null, .null, .int 0, .null, .null, .null, .null]) (by omega) rfl gW_X8 tyX8 tyX8_ok nmX8 12 (by decide) gF_X8_38 rfl rfl rfl rfl (Nat.le_of_ble_eq_true rfl) rfl dX8_init_75 ?_
  refine w_aload_n X dX8_init_78 rfl ?_
  refine w_iconst X dX8_init_79 ?_
  refine i_newi X (n := 5) ((up_ne (by omega)).trans h482) rfl (by decide) (by show _ ≤ (18 : Nat); omega) (by show _ ≤ (61693 : Nat); omega) dX8_init_80 ?_
  refine i_putF' X hname (fs' := [.int 0, .int (jI 2), .int (jI 1), .int 0, .ref (n0 + 474), .ref (n0 + 475), .ref (n0 + 476), .ref (n0 + 477), .ref (n0 + 478), .ref (n0 + 479), .ref (n0 + 480), .int 0, .ref (n0 + 481), .ref (n0 + 482), .int 0, .int 0, .int 0, .null, .int 0, .null, .null, .null, .null, .int 0, .null, .null, .null, .null]) (by omega) rfl gW_X8 tyX8 tyX8_ok nmX8 13 (by decide) gF_X8_41 rfl rfl rfl rfl (Nat.le_of_ble_eq_true rfl) rfl dX8_init_82 ?_
  refine w_aload_n X dX8_init_85 rfl ?_
  refine w_sipush X dX8_init_86 rfl ?_
  refine i_newi X (n := 505) ((up_ne (by omega)).trans h483) rfl (by decide) (by show _ ≤ (18 : Nat); omega) (by show _ ≤ (61693 : Nat); omega) dX8_init_89 ?_
  refine i_putF' X hname (fs' := [.int 0, .int (jI 2), .int (jI 1), .int 0, .ref (n0 + 474), .ref (n0 + 475), .ref (n0 + 476), .ref (n0 + 477), .ref (n0 + 478), .ref (n0 + 479), .ref (n0 + 480), .int 0, .ref (n0 + 481), .ref (n0 + 482), .int 0, .int 0, .int 0, .ref (n0 + 483), .int 0, .null, .null, .null, .null, .int 0, .null, .null, .null, .null]) (by omega) rfl gW_X8 tyX8 tyX8_ok nmX8 17 (by decide) gF_X8_44 rfl rfl rfl rfl (Nat.le_of_ble_eq_true rfl) rfl dX8_init_91 ?_
  refine w_aload_n X dX8_init_94 rfl ?_
  refine w_sipush X dX8_init_95 rfl ?_
  refine i_newi X (n := 505) ((up_ne (by omega)).trans h484) rfl (by decide) (by show _ ≤ (18 : Nat); omega) (by show _ ≤ (61693 : Nat); omega) dX8_init_98 ?_
  refine i_putF' X hname (fs' := [.int 0, .int (jI 2), .int (jI 1), .int 0, .ref (n0 + 474), .ref (n0 + 475), .ref (n0 + 476), .ref (n0 + 477), .ref (n0 + 478), .ref (n0 + 479), .ref (n0 + 480), .int 0, .ref (n0 + 481), .ref (n0 + 482), .int 0, .int 0, .int 0, .ref (n0 + 483), .int 0, .ref (n0 + 484), .null, .null, .null, .int 0, .null, .null, .null, .null]) (by omega) rfl gW_X8 tyX8 tyX8_ok nmX8 19 (by decide) gF_X8_47 rfl rfl rfl rfl (Nat.le_of_ble_eq_true rfl) rfl dX8_init_100 ?_
  refine w_aload_n X dX8_init_103 rfl ?_
  refine w_iconst X dX8_init_104 ?_
  refine i_newi X (n := 5) ((up_ne (by omega)).trans h485) rfl (by decide) (by show _ ≤ (18 : Nat); omega) (by show _ ≤ (61693 : Nat); omega) dX8_init_105 ?_
  refine i_putF' X hname (fs' := [.int 0, .int (jI 2), .int (jI 1), .int 0, .ref (n0 + 474), .ref (n0 + 475), .ref (n0 + 476), .ref (n0 + 477), .ref (n0 + 478), .ref (n0 + 479), .ref (n0 + 480), .int 0, .ref (n0 + 481), .ref (n0 + 482), .int 0, .int 0, .int 0, .ref (n0 + 483), .int 0, .ref (n0 + 484), .ref (n0 + 485), .null, .null, .int 0, .null, .null, .null, .null]) (by omega) rfl gW_X8 tyX8 tyX8_ok nmX8 20 (by decide) gF_X8_50 rfl rfl rfl rfl (Nat.le_of_ble_eq_true rfl) rfl dX8_init_107 ?_
  refine w_aload_n X dX8_init_110 rfl ?_
  refine w_iconst X dX8_init_111 ?_
  refine i_newi X (n := 5) ((up_ne (by omega)).trans h486) rfl (by decide) (by show _ ≤ (18 : Nat); omega) (by show _ ≤ (61693 : Nat); omega) dX8_init_112 ?_
  refine i_putF' X hname (fs' := [.int 0, .int (jI 2), .int (jI 1), .int 0, .ref (n0 + 474), .ref (n0 + 475), .ref (n0 + 476), .ref (n0 + 477), .ref (n0 + 478), .ref (n0 + 479), .ref (n0 + 480), .int 0, .ref (n0 + 481), .ref (n0 + 482), .int 0, .int 0, .int 0, .ref (n0 + 483), .int 0, .ref (n0 + 484), .ref (n0 + 485), .ref (n0 + 486), .null, .int 0, .null, .null, .null, .null]) (by omega) rfl gW_X8 tyX8 tyX8_ok nmX8 21 (by decide) gF_X8_53 rfl rfl rfl rfl (Nat.le_of_ble_eq_true rfl) rfl dX8_init_114 ?_
  refine w_aload_n X dX8_init_117 rfl ?_
  refine w_iconst X dX8_init_118 ?_
  refine i_newi X (n := 5) ((up_ne (by omega)).trans h487) rfl (by decide) (by show _ ≤ (18 : Nat); omega) (by show _ ≤ (61693 : Nat); omega) dX8_init_119 ?_
  refine i_putF' X hname (fs' := [.int 0, .int (jI 2), .int (jI 1), .int 0, .ref (n0 + 474), .ref (n0 + 475), .ref (n0 + 476), .ref (n0 + 477), .ref (n0 + 478), .ref (n0 + 479), .ref (n0 + 480), .int 0, .ref (n0 + 481), .ref (n0 + 482), .int 0, .int 0, .int 0, .ref (n0 + 483), .int 0, .ref (n0 + 484), .ref (n0 + 485), .ref (n0 + 486), .ref (n0 + 487), .int 0, .null, .null, .null, .null]) (by omega) rfl gW_X8 tyX8 tyX8_ok nmX8 22 (by decide) gF_X8_56 rfl rfl rfl rfl (Nat.le_of_ble_eq_true rfl) rfl dX8_init_121 ?_
  refine w_aload_n X dX8_init_124 rfl ?_
  refine w_sipush X dX8_init_125 rfl ?_
  refine i_newi X (n := 500) ((up_ne (by omega)).trans h488) rfl (by decide) (by show _ ≤ (18 : Nat); omega) (by show _ ≤ (61693 : Nat); omega) dX8_init_128 ?_
  refine i_putF' X hname (fs' := [.int 0, .int (jI 2), .int (jI 1), .int 0, .ref (n0 + 474), .ref (n0 + 475), .ref (n0 + 476), .ref (n0 + 477), .ref (n0 + 478), .ref (n0 + 479), .ref (n0 + 480), .int 0, .ref (n0 + 481), .ref (n0 + 482), .int 0, .int 0, .int 0, .ref (n0 + 483), .int 0, .ref (n0 + 484), .ref (n0 + 485), .ref (n0 + 486), .ref (n0 + 487), .int 0, .ref (n0 + 488), .null, .null, .null]) (by omega) rfl gW_X8 tyX8 tyX8_ok nmX8 24 (by decide) gF_X8_59 rfl rfl rfl rfl (Nat.le_of_ble_eq_true rfl) rfl dX8_init_130 ?_
  refine w_aload_n X dX8_init_133 rfl ?_
  refine w_ldc X (z := 59049) gK_X8_62 rfl dX8_init_134 ?_
  refine i_newi X (n := 59049) ((up_ne (by omega)).trans h489) rfl (by decide) (by show _ ≤ (18 : Nat); omega) (by show _ ≤ (61693 : Nat); omega) dX8_init_136 ?_
  refine i_putF' X hname (fs' := [.int 0, .int (jI 2), .int (jI 1), .int 0, .ref (n0 + 474), .ref (n0 + 475), .ref (n0 + 476), .ref (n0 + 477), .ref (n0 + 478), .ref (n0 + 479), .ref (n0 + 480), .int 0, .ref (n0 + 481), .ref (n0 + 482), .int 0, .int 0, .int 0, .ref (n0 + 483), .int 0, .ref (n0 + 484), .ref (n0 + 485), .ref (n0 + 486), .ref (n0 + 487), .int 0, .ref (n0 + 488), .ref (n0 + 489), .null, .null]) (by omega) rfl gW_X8 tyX8 tyX8_ok nmX8 25 (by decide) gF_X8_63 rfl rfl rfl rfl (Nat.le_of_ble_eq_true rfl) rfl dX8_init_138 ?_
  refine w_aload_n X dX8_init_141 rfl ?_
  refine w_sipush X dX8_init_142 rfl ?_
  refine i_newi X (n := 500) ((up_ne (by omega)).trans h490) rfl (by decide) (by show _ ≤ (18 : Nat); omega) (by show _ ≤ (61693 : Nat); omega) dX8_init_145 ?_
  refine i_putF' X hname (fs' := [.int 0, .int (jI 2), .int (jI 1), .int 0, .ref (n0 + 474), .ref (n0 + 475), .ref (n0 + 476), .ref (n0 + 477), .ref (n0 + 478), .ref (n0 + 479), .ref (n0 + 480), .int 0, .ref (n0 + 481), .ref (n0 + 482), .int 0, .int 0, .int 0, .ref (n0 + 483), .int 0, .ref (n0 + 484), .ref (n0 + 485), .ref (n0 + 486), .ref (n0 + 487), .int 0, .ref (n0 + 488), .ref (n0 + 489), .ref (n0 + 490), .null]) (by omega) rfl gW_X8 tyX8 tyX8_ok nmX8 26 (by decide) gF_X8_66 rfl rfl rfl rfl (Nat.le_of_ble_eq_true rfl) rfl dX8_init_147 ?_
  refine w_aload_n X dX8_init_150 rfl ?_
  refine w_sipush X dX8_init_151 rfl ?_
  refine i_newz X (n := 500) ((up_ne (by omega)).trans h491) rfl (by decide) (by show _ ≤ (18 : Nat); omega) (by show _ ≤ (61693 : Nat); omega) dX8_init_154 ?_
  refine i_putF' X hname (fs' := [.int 0, .int (jI 2), .int (jI 1), .int 0, .ref (n0 + 474), .ref (n0 + 475), .ref (n0 + 476), .ref (n0 + 477), .ref (n0 + 478), .ref (n0 + 479), .ref (n0 + 480), .int 0, .ref (n0 + 481), .ref (n0 + 482), .int 0, .int 0, .int 0, .ref (n0 + 483), .int 0, .ref (n0 + 484), .ref (n0 + 485), .ref (n0 + 486), .ref (n0 + 487), .int 0, .ref (n0 + 488), .ref (n0 + 489), .ref (n0 + 490), .ref (n0 + 491)]) (by omega) rfl gW_X8 tyX8 tyX8_ok nmX8 27 (by decide) gF_X8_69 rfl rfl rfl rfl (Nat.le_of_ble_eq_true rfl) rfl dX8_init_156 ?_
  refine WW.eqf (up_id h473) ?_
  exact w_vret X hr dX8_init_159 ⟨rfl, rfl, rfl⟩
set_option maxRecDepth 20000 in
set_option maxHeartbeats 4000000 in
theorem i_X7 {l : Launch} {G : Gt} {n0 : Nat} {g : Nat → va_E} (h0 : g 0 = .inr (7, [.ref (n0 + 1), .ref (n0 + 42), .ref (n0 + 44), .ref (n0 + 461)])) (h1 : g 1 = .inr (5, [.ref (n0 + 2), .ref (n0 + 3), .ref (n0 + 4), .int (jI 2), .int (jI 1), .int (jI 0), .int (jI 0)])) (h2 : g 2 = .inl (G.2 3, 12, .inr (.inr (.inr (.inr (fun j => some (n0 + (6 + 2 * j)))))))) (h3 : g 3 = .inl (G.2 2, 6, .inr (.inr (.inr (.inr (fun j => some (n0 + (30 + 2 * j)))))))) (h4 : g 4 = .inr (3, [.ref (n0 + 5)])) (h5 : g 5 = .inl (G.2 0, 5, .inl (fun _ => 0))) (hq : ∀ i : Nat, i < 12 → g (6 + 2 * i) = .inr (6, [.ref (n0 + (6 + 2 * i + 1)), .int (jI 0), .int (jI 0), .int (jI 0), .int (jI (-9)), .int (jI (-9)), .int (jI (-9)), .int (jI (-9))])) (hq2 : ∀ i : Nat, i < 12 → g (6 + 2 * i + 1) = .inl (G.2 0, 5, .inl (fun _ => 0))) (hb : ∀ i : Nat, i < 6 → g (30 + 2 * i) = .inr (3, [.ref (n0 + (30 + 2 * i + 1))])) (hb2 : ∀ i : Nat, i < 6 → g (30 + 2 * i + 1) = .inl (G.2 0, 5, .inl (fun _ => 0))) (h42 : g 42 = .inr (3, [.ref (n0 + 43)])) (h43 : g 43 = .inl (G.2 0, 5, .inl (fun _ => 0))) (h44 : g 44 = .inr (0, [.ref (n0 + 1), .ref (n0 + 45), .ref (n0 + 47), .ref (n0 + 49), .ref (n0 + 51), .ref (n0 + 256), .int (jI (-3))])) (h45 : g 45 = .inr (2, [.ref (n0 + 46)])) (h46 : g 46 = .inl (G.2 0, 1200, .inl (fun _ => 0))) (h47 : g 47 = .inr (3, [.ref (n0 + 48)])) (h48 : g 48 = .inl (G.2 0, 5, .inl (fun _ => 0))) (h49 : g 49 = .inr (3, [.ref (n0 + 50)])) (h50 : g 50 = .inl (G.2 0, 5, .inl (fun _ => 0))) (b510 : g 51 = .inr (1, [.ref (n0 + (51 + 1)), .ref (n0 + (51 + 2)), .int (jI 0), .int (jI 0)])) (b511 : g (51 + 1) = .inl (G.2 2, 101, .inr (.inr (.inr (.inr (fun j => some (n0 + (51 + 3 + 2 * j)))))))) (b512 : g (51 + 2) = .inl (G.2 1, 101, .inl (fun _ => 0))) (b513 : ∀ i : Nat, i < 101 → g (51 + 3 + 2 * i) = .inr (3, [.ref (n0 + (51 + 3 + 2 * i + 1))])) (b514 : ∀ i : Nat, i < 101 → g (51 + 3 + 2 * i + 1) = .inl (G.2 0, 5, .inl (fun _ => 0))) (b2560 : g 256 = .inr (1, [.ref (n0 + (256 + 1)), .ref (n0 + (256 + 2)), .int (jI 0), .int (jI 0)])) (b2561 : g (256 + 1) = .inl (G.2 2, 101, .inr (.inr (.inr (.inr (fun j => some (n0 + (256 + 3 + 2 * j)))))))) (b2562 : g (256 + 2) = .inl (G.2 1, 101, .inl (fun _ => 0))) (b2563 : ∀ i : Nat, i < 101 → g (256 + 3 + 2 * i) = .inr (3, [.ref (n0 + (256 + 3 + 2 * i + 1))])) (b2564 : ∀ i : Nat, i < 101 → g (256 + 3 + 2 * i + 1) = .inl (G.2 0, 5, .inl (fun _ => 0))) (h461 : g 461 = .inr (4, [.ref (n0 + 1), .ref (n0 + 462), .ref (n0 + 464), .ref (n0 + 466), .ref (n0 + 467), .ref (n0 + 468), .ref (n0 + 469), .ref (n0 + 471), .ref (n0 + 472), .int (jI (-9)), .int (jI 0), .int (jI 0), .int (jI (-9))])) (h462 : g 462 = .inr (3, [.ref (n0 + 463)])) (h463 : g 463 = .inl (G.2 0, 5, .inl (fun _ => 0))) (h464 : g 464 = .inr (3, [.ref (n0 + 465)])) (h465 : g 465 = .inl (G.2 0, 5, .inl (fun _ => 0))) (h466 : g 466 = .inl (G.2 0, 495, .inl (fun _ => 0))) (h467 : g 467 = .inl (G.2 0, 495, .inl (fun _ => 0))) (h468 : g 468 = .inl (G.2 0, 495, .inl (fun _ => 0))) (h472 : g 472 = .inl (G.2 0, 495, .inl (fun _ => 0))) (h469 : g 469 = .inr (2, [.ref (n0 + 470)])) (h470 : g 470 = .inl (G.2 0, 5940, .inl (fun _ => 0))) (h471 : g 471 = .inl (G.2 1, 495, .inl (fun _ => 0))) : In l yX7_init cX7_init 1 4 472 11514 G n0 [.ref (n0 + 0)] 1 (va_up g 0 (.inr (7, [.null, .null, .null, .null]))) 473 g := by
  refine Ct_of (by decide +kernel) (by intro v hv; simp at hv; rcases hv with rfl <;> rfl) (Nat.le_of_ble_eq_true rfl) ?_
  intro p e s m args below meth c9 X hr hname
  have hname : meth.name = "<init>" := hname
  refine w_aload_n X dX7_init_0 rfl ?_
  refine w_objInit X gM_X7_1 dX7_init_1 ⟨Nat.le_of_ble_eq_true rfl, Nat.le_of_ble_eq_true rfl⟩ (Nat.le_of_ble_eq_true rfl) ?_
  refine w_aload_n X dX7_init_4 rfl ?_
  refine w_new X (ci := 5) gL_X7_7 gB_X5 gN_X5 gW_X5 tyX5 tyX5_ok rfl [.null, .null, .null, .int 0, .int 0, .int 0, .int 0] (fun j hj => match j, hj with | 0, _ => rfl | 1, _ => rfl | 2, _ => rfl | 3, _ => rfl | 4, _ => rfl | 5, _ => rfl | 6, _ => rfl | (j + 7), hj => absurd hj (by omega)) (by show _ ≤ (472 : Nat); omega) (by show _ ≤ (11514 : Nat); omega) dX7_init_5 ?_
  refine w_dup X dX7_init_8 rfl ?_
  refine i_call X (i_X5 (l := l) ((up_ne (by omega)).trans h1) ((up_ne (by omega)).trans h2) ((up_ne (by omega)).trans h3) ((up_ne (by omega)).trans h4) ((up_ne (by omega)).trans h5) (fun i hi => ((up_ne (by omega)).trans (hq i hi))) (fun i hi => ((up_ne (by omega)).trans (hq2 i hi))) (fun i hi => ((up_ne (by omega)).trans (hb i hi))) (fun i hi => ((up_ne (by omega)).trans (hb2 i hi)))) gM_X7_9 gI_yX5_init gN_X5 gC_yX5_init rfl dX7_init_9 hl_yX5_init ⟨Nat.le_of_ble_eq_true rfl, Nat.le_of_ble_eq_true rfl⟩ ⟨by show _ ≤ (472 : Nat); omega, by show _ ≤ (11514 : Nat); omega⟩ (Nat.le_of_ble_eq_true rfl) rfl ?_
  refine i_putF X hname (by omega) rfl gW_X7 tyX7 tyX7_ok nmX7 0 (by decide) gF_X7_10 rfl rfl rfl rfl (Nat.le_of_ble_eq_true rfl) dX7_init_12 ?_
  refine w_aload_n X dX7_init_15 rfl ?_
  refine w_new X (ci := 3) gL_X7_16 gB_X3 gN_X3 gW_X3 tyX3 tyX3_ok rfl [.null] (fun j hj => match j, hj with | 0, _ => rfl | (j + 1), hj => absurd hj (by omega)) (by show _ ≤ (472 : Nat); omega) (by show _ ≤ (11514 : Nat); omega) dX7_init_16 ?_
  refine w_dup X dX7_init_19 rfl ?_
  refine i_callN X (i_X3 (l := l) (N := 43) (k := 42) (by decide) ((up_ne (by omega)).trans h42) ((up_ne (by omega)).trans h43)) gM_X7_18 gI_yX3_init gN_X3 gC_yX3_init rfl dX7_init_20 hl_yX3_init ⟨Nat.le_of_ble_eq_true rfl, Nat.le_of_ble_eq_true rfl⟩ ⟨by show _ ≤ (472 : Nat); omega, by show _ ≤ (11514 : Nat); omega⟩ (Nat.le_of_ble_eq_true rfl) rfl ?_
  refine i_putF X hname (by omega) rfl gW_X7 tyX7 tyX7_ok nmX7 1 (by decide) gF_X7_19 rfl rfl rfl rfl (Nat.le_of_ble_eq_true rfl) dX7_init_23 ?_
  refine w_aload_n X dX7_init_26 rfl ?_
  refine w_new X (ci := 0) gL_X7_23 gB_X0 gN_X0 gW_X0 tyX0 tyX0_ok rfl [.null, .null, .null, .null, .null, .null, .int 0] (fun j hj => match j, hj with | 0, _ => rfl | 1, _ => rfl | 2, _ => rfl | 3, _ => rfl | 4, _ => rfl | 5, _ => rfl | 6, _ => rfl | (j + 7), hj => absurd hj (by omega)) (by show _ ≤ (472 : Nat); omega) (by show _ ≤ (11514 : Nat); omega) dX7_init_27 ?_
  refine w_dup X dX7_init_30 rfl ?_
  refine w_aload_n X dX7_init_31 rfl ?_
  refine w_get X (by omega) ((up_ne (by decide)).trans (va_up_self _ _ _)) rfl gW_X7 0 (by decide) gF_X7_10 rfl dX7_init_32 ?_
  refine i_call X (i_X0 (l := l) ((up_ne (by omega)).trans h44) ((up_ne (by omega)).trans h45) ((up_ne (by omega)).trans h46) ((up_ne (by omega)).trans h47) ((up_ne (by omega)).trans h48) ((up_ne (by omega)).trans h49) ((up_ne (by omega)).trans h50) ((up_ne (by omega)).trans b510) ((up_ne (by omega)).trans b511) ((up_ne (by omega)).trans b512) (fun i hi => ((up_ne (by omega)).trans (b513 i hi))) (fun i hi => ((up_ne (by omega)).trans (b514 i hi))) ((up_ne (by omega)).trans b2560) ((up_ne (by omega)).trans b2561) ((up_ne (by omega)).trans b2562) (fun i hi => ((up_ne (by omega)).trans (b2563 i hi))) (fun i hi => ((up_ne (by omega)).trans (b2564 i hi)))) gM_X7_25 gI_yX0_init gN_X0 gC_yX0_init rfl dX7_init_35 hl_yX0_init ⟨Nat.le_of_ble_eq_true rfl, Nat.le_of_ble_eq_true rfl⟩ ⟨by show _ ≤ (472 : Nat); omega, by show _ ≤ (11514 : Nat); omega⟩ (Nat.le_of_ble_eq_true rfl) rfl ?_
  refine i_putF X hname (by omega) rfl gW_X7 tyX7 tyX7_ok nmX7 2 (by decide) gF_X7_28 rfl rfl rfl rfl (Nat.le_of_ble_eq_true rfl) dX7_init_38 ?_
  refine w_aload_n X dX7_init_41 rfl ?_
  refine w_new X (ci := 4) gL_X7_32 gB_X4 gN_X4 gW_X4 tyX4 tyX4_ok rfl [.null, .null, .null, .null, .null, .null, .null, .null, .null, .int 0, .int 0, .int 0, .int 0] (fun j hj => match j, hj with | 0, _ => rfl | 1, _ => rfl | 2, _ => rfl | 3, _ => rfl | 4, _ => rfl | 5, _ => rfl | 6, _ => rfl | 7, _ => rfl | 8, _ => rfl | 9, _ => rfl | 10, _ => rfl | 11, _ => rfl | 12, _ => rfl | (j + 13), hj => absurd hj (by omega)) (by show _ ≤ (472 : Nat); omega) (by show _ ≤ (11514 : Nat); omega) dX7_init_42 ?_
  refine w_dup X dX7_init_45 rfl ?_
  refine w_aload_n X dX7_init_46 rfl ?_
  refine w_get X (by omega) ((up_ne (by decide)).trans (va_up_self _ _ _)) rfl gW_X7 0 (by decide) gF_X7_10 rfl dX7_init_47 ?_
  refine i_call X (i_X4 (l := l) ((up_ne (by omega)).trans h461) ((up_ne (by omega)).trans h462) ((up_ne (by omega)).trans h463) ((up_ne (by omega)).trans h464) ((up_ne (by omega)).trans h465) ((up_ne (by omega)).trans h466) ((up_ne (by omega)).trans h467) ((up_ne (by omega)).trans h468) ((up_ne (by omega)).trans h472) ((up_ne (by omega)).trans h469) ((up_ne (by omega)).trans h470) ((up_ne (by omega)).trans h471)) gM_X7_34 gI_yX4_init gN_X4 gC_yX4_init rfl dX7_init_50 hl_yX4_init ⟨Nat.le_of_ble_eq_true rfl, Nat.le_of_ble_eq_true rfl⟩ ⟨by show _ ≤ (472 : Nat); omega, by show _ ≤ (11514 : Nat); omega⟩ (Nat.le_of_ble_eq_true rfl) rfl ?_
  refine i_putF X hname (by omega) rfl gW_X7 tyX7 tyX7_ok nmX7 3 (by decide) gF_X7_35 rfl rfl rfl rfl (Nat.le_of_ble_eq_true rfl) dX7_init_53 ?_
  refine WW.eqf (up_id h0) ?_
  exact w_vret X hr dX7_init_56 ⟨rfl, rfl, rfl⟩
