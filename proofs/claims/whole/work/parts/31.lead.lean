def Gv (mi : Nat → Nat → Int) (z : Int) (j : Nat) : Int := if 0 ≤ z * 12 + (j : Int) ∧ z * 12 + (j : Int) < 5940 then mi 470 (z * 12 + (j : Int)).toNat else -9
def Lv (mi : Nat → Nat → Int) (z : Int) : Int := if 0 ≤ z ∧ z < mi 461 10 then mi 467 z.toNat else -9
/-- a leading one, a step on by one of the first rules -/
def okC (mi : Nat → Nat → Int) (z w : Int) : Prop := 0 ≤ w ∧ w < mi 461 10 ∧ mi 471 w.toNat = 1 ∧ Lv mi w = Lv mi z + 1
def okJ (mi : Nat → Nat → Int) (z : Int) (j : Nat) (w : Int) : Prop := ∃ j' : Nat, j' < j ∧ Gv mi z j' = w ∧ okC mi z w
theorem okJ_s {mi : Nat → Nat → Int} {z : Int} {j : Nat} {w : Int} : okJ mi z (j + 1) w ↔ okJ mi z j w ∨ (Gv mi z j = w ∧ okC mi z w) := by
  constructor
  · rintro ⟨j', h1, h2, h3⟩
    by_cases q : j' = j
    · subst q; exact Or.inr ⟨h2, h3⟩
    · exact Or.inl ⟨j', by omega, h2, h3⟩
  · rintro (⟨j', h1, h2, h3⟩ | ⟨h2, h3⟩)
    · exact ⟨j', by omega, h2, h3⟩
    · exact ⟨j, by omega, h2, h3⟩
/-- the first of them -/
def Fs (mi : Nat → Nat → Int) (z : Int) (j : Nat) (x : Int) : Prop := (x = -9 ∧ ∀ w, ¬ okJ mi z j w) ∨ ((0 ≤ x ∧ x < mi 461 10) ∧ okJ mi z j x ∧ ∀ w, okJ mi z j w → x ≤ w)
theorem Fs_b {mi : Nat → Nat → Int} {z : Int} {j : Nat} {x : Int} (h : Fs mi z j x) : x = -9 ∨ 0 ≤ x ∧ x < mi 461 10 := by
  rcases h with ⟨h, -⟩ | ⟨h, -⟩
  · exact Or.inl h
  · exact Or.inr h
theorem Fs_no {mi : Nat → Nat → Int} {z : Int} {j : Nat} {x : Int} (h : Fs mi z j x) (hn : ¬ okC mi z (Gv mi z j)) : Fs mi z (j + 1) x := by
  have e : ∀ w, okJ mi z (j + 1) w ↔ okJ mi z j w := fun w => by
    rw [okJ_s]
    exact ⟨fun q => q.elim id (fun q => absurd (q.1 ▸ q.2) hn), Or.inl⟩
  rcases h with ⟨h, h2⟩ | ⟨h, h2, h3⟩
  · exact Or.inl ⟨h, fun w q => h2 w ((e w).mp q)⟩
  · exact Or.inr ⟨h, (e x).mpr h2, fun w q => h3 w ((e w).mp q)⟩
theorem Fs_set {mi : Nat → Nat → Int} {z : Int} {j : Nat} {x : Int} (h : Fs mi z j x) (hn : okC mi z (Gv mi z j)) (hx : x = -9 ∨ Gv mi z j < x) : Fs mi z (j + 1) (Gv mi z j) := by
  refine Or.inr ⟨⟨hn.1, hn.2.1⟩, okJ_s.mpr (Or.inr ⟨rfl, hn⟩), fun w q => ?_⟩
  rcases okJ_s.mp q with q | ⟨q, -⟩
  · rcases h with ⟨h, h2⟩ | ⟨h, h2, h3⟩
    · exact absurd q (h2 w)
    · have := h3 w q
      omega
  · omega
theorem Fs_keep {mi : Nat → Nat → Int} {z : Int} {j : Nat} {x : Int} (h : Fs mi z j x) (hx : x ≠ -9) (hl : x ≤ Gv mi z j) : Fs mi z (j + 1) x := by
  rcases h with ⟨h, h2⟩ | ⟨h, h2, h3⟩
  · exact absurd h hx
  · refine Or.inr ⟨h, okJ_s.mpr (Or.inl h2), fun w q => ?_⟩
    rcases okJ_s.mp q with q | ⟨q, -⟩
    · exact h3 w q
    · omega
theorem dX4_firstLeading_0 : decode cX4_firstLeading 0 = .ok (.bipush (-9), 2) := by decide +kernel
theorem dX4_firstLeading_2 : decode cX4_firstLeading 2 = .ok (.istore_n 2, 1) := by decide +kernel
theorem dX4_firstLeading_3 : decode cX4_firstLeading 3 = .ok (.iconst 0, 1) := by decide +kernel
theorem dX4_firstLeading_4 : decode cX4_firstLeading 4 = .ok (.istore_n 3, 1) := by decide +kernel
theorem dX4_firstLeading_5 : decode cX4_firstLeading 5 = .ok (.iload_n 3, 1) := by decide +kernel
theorem dX4_firstLeading_6 : decode cX4_firstLeading 6 = .ok (.aload_n 0, 1) := by decide +kernel
theorem dX4_firstLeading_7 : decode cX4_firstLeading 7 = .ok (.getfield 60, 3) := by decide +kernel
theorem dX4_firstLeading_10 : decode cX4_firstLeading 10 = .ok (.getfield 135, 3) := by decide +kernel
theorem dX4_firstLeading_13 : decode cX4_firstLeading 13 = .ok (.if_icmp .ge 82, 3) := by decide +kernel
theorem dX4_firstLeading_16 : decode cX4_firstLeading 16 = .ok (.aload_n 0, 1) := by decide +kernel
theorem dX4_firstLeading_17 : decode cX4_firstLeading 17 = .ok (.getfield 36, 3) := by decide +kernel
theorem dX4_firstLeading_20 : decode cX4_firstLeading 20 = .ok (.iload_n 1, 1) := by decide +kernel
theorem dX4_firstLeading_21 : decode cX4_firstLeading 21 = .ok (.iload_n 3, 1) := by decide +kernel
theorem dX4_firstLeading_22 : decode cX4_firstLeading 22 = .ok (.invokevirtual 163, 3) := by decide +kernel
theorem dX4_firstLeading_25 : decode cX4_firstLeading 25 = .ok (.istore 4, 2) := by decide +kernel
theorem dX4_firstLeading_27 : decode cX4_firstLeading 27 = .ok (.aload_n 0, 1) := by decide +kernel
theorem dX4_firstLeading_28 : decode cX4_firstLeading 28 = .ok (.iload 4, 2) := by decide +kernel
theorem dX4_firstLeading_30 : decode cX4_firstLeading 30 = .ok (.invokevirtual 122, 3) := by decide +kernel
theorem dX4_firstLeading_33 : decode cX4_firstLeading 33 = .ok (.ifCond .eq 33, 3) := by decide +kernel
theorem dX4_firstLeading_36 : decode cX4_firstLeading 36 = .ok (.aload_n 0, 1) := by decide +kernel
theorem dX4_firstLeading_37 : decode cX4_firstLeading 37 = .ok (.getfield 40, 3) := by decide +kernel
theorem dX4_firstLeading_40 : decode cX4_firstLeading 40 = .ok (.iload 4, 2) := by decide +kernel
theorem dX4_firstLeading_42 : decode cX4_firstLeading 42 = .ok (.baload, 1) := by decide +kernel
theorem dX4_firstLeading_43 : decode cX4_firstLeading 43 = .ok (.ifCond .eq 23, 3) := by decide +kernel
theorem dX4_firstLeading_46 : decode cX4_firstLeading 46 = .ok (.aload_n 0, 1) := by decide +kernel
theorem dX4_firstLeading_47 : decode cX4_firstLeading 47 = .ok (.iload 4, 2) := by decide +kernel
theorem dX4_firstLeading_49 : decode cX4_firstLeading 49 = .ok (.invokevirtual 132, 3) := by decide +kernel
theorem dX4_firstLeading_52 : decode cX4_firstLeading 52 = .ok (.aload_n 0, 1) := by decide +kernel
theorem dX4_firstLeading_53 : decode cX4_firstLeading 53 = .ok (.iload_n 1, 1) := by decide +kernel
theorem dX4_firstLeading_54 : decode cX4_firstLeading 54 = .ok (.invokevirtual 132, 3) := by decide +kernel
theorem dX4_firstLeading_57 : decode cX4_firstLeading 57 = .ok (.iconst 1, 1) := by decide +kernel
theorem dX4_firstLeading_58 : decode cX4_firstLeading 58 = .ok (.iadd, 1) := by decide +kernel
theorem dX4_firstLeading_59 : decode cX4_firstLeading 59 = .ok (.if_icmp .ne 7, 3) := by decide +kernel
theorem dX4_firstLeading_62 : decode cX4_firstLeading 62 = .ok (.iconst 1, 1) := by decide +kernel
theorem dX4_firstLeading_63 : decode cX4_firstLeading 63 = .ok (.goto 4, 3) := by decide +kernel
theorem dX4_firstLeading_66 : decode cX4_firstLeading 66 = .ok (.iconst 0, 1) := by decide +kernel
theorem dX4_firstLeading_67 : decode cX4_firstLeading 67 = .ok (.istore 5, 2) := by decide +kernel
theorem dX4_firstLeading_69 : decode cX4_firstLeading 69 = .ok (.iload 5, 2) := by decide +kernel
theorem dX4_firstLeading_71 : decode cX4_firstLeading 71 = .ok (.ifCond .eq 18, 3) := by decide +kernel
theorem dX4_firstLeading_74 : decode cX4_firstLeading 74 = .ok (.iload_n 2, 1) := by decide +kernel
theorem dX4_firstLeading_75 : decode cX4_firstLeading 75 = .ok (.bipush (-9), 2) := by decide +kernel
theorem dX4_firstLeading_77 : decode cX4_firstLeading 77 = .ok (.if_icmp .eq 9, 3) := by decide +kernel
theorem dX4_firstLeading_80 : decode cX4_firstLeading 80 = .ok (.iload 4, 2) := by decide +kernel
theorem dX4_firstLeading_82 : decode cX4_firstLeading 82 = .ok (.iload_n 2, 1) := by decide +kernel
theorem dX4_firstLeading_83 : decode cX4_firstLeading 83 = .ok (.if_icmp .ge 6, 3) := by decide +kernel
theorem dX4_firstLeading_86 : decode cX4_firstLeading 86 = .ok (.iload 4, 2) := by decide +kernel
theorem dX4_firstLeading_88 : decode cX4_firstLeading 88 = .ok (.istore_n 2, 1) := by decide +kernel
theorem dX4_firstLeading_89 : decode cX4_firstLeading 89 = .ok (.iinc 3 1, 3) := by decide +kernel
theorem dX4_firstLeading_92 : decode cX4_firstLeading 92 = .ok (.goto (-87), 3) := by decide +kernel
theorem dX4_firstLeading_95 : decode cX4_firstLeading 95 = .ok (.iload_n 2, 1) := by decide +kernel
theorem dX4_firstLeading_96 : decode cX4_firstLeading 96 = .ok (.ireturn, 1) := by decide +kernel
theorem hl_yX4_firstLeading : (yX4_firstLeading.cls ≠ "java/lang/invoke/MethodHandle" ∧ yX4_firstLeading.cls ≠ "java/lang/invoke/VarHandle") ∧ (parseMethodDescriptor yX4_firstLeading.desc).map (fun d => d.parameters.length) = some 1 := by decide +kernel
set_option maxRecDepth 20000 in
set_option maxHeartbeats 4000000 in
theorem c_X4_firstLeading {l : Launch} {G : Gt} {n0 : Nat} {mi : Nat → Nat → Int} {mr : Nat → Nat → Nat} (hL : LW mi) (hcc : 0 ≤ mi 461 10 ∧ mi 461 10 ≤ 495) {z : Int} (hz : -9 ≤ z ∧ z < 495) (hGr : ∀ j : Nat, (j : Int) < mi 1 5 → rg (Gv mi z j)) (hLr : ∀ w : Int, -9 ≤ Lv mi w ∧ Lv mi w ≤ 495) (h471 : ∀ w : Nat, (w : Int) < mi 461 10 → mi 471 w = 0 ∨ mi 471 w = 1) : Ci l yX4_firstLeading cX4_firstLeading 6 .int 3 G n0 [.ref (n0 + 461), .int (jI z)] mi mr (fun r9 mi9 mr9 => mi = mi9 ∧ mr = mr9 ∧ Fs mi z (mi 1 5).toNat r9) := by
  refine Ct_of (by decide +kernel) (by intro v hv; simp at hv; rcases hv with rfl | rfl <;> rfl) (Nat.le_of_ble_eq_true rfl) ?_
  intro p e s m args below meth c9 X hr hname
  show WW _ _ _ _ _ _ _ _ _ _ _ _ _ _ _ _ _ _ _ [some (.ref (n0 + 461)), some (.int (jI z)), none, none, none, none] _
  have hL3 := hL.2.2.1
  refine w_bipush X dX4_firstLeading_0 rfl ?_
  refine w_ist6_2 X dX4_firstLeading_2 ?_
  refine w_iconst X dX4_firstLeading_3 ?_
  refine w_ist6_3 X dX4_firstLeading_4 ?_
  have loop : ∀ (n : Nat) (j : Nat) (x : Int) (x4 x5 : Option Value), ((j : Int) ≤ mi 1 5) → (Fs mi z j x) → n = 12 - j → WSi p l e s m args below meth c9 3 (fun r9 mi9 mr9 => mi = mi9 ∧ mr = mr9 ∧ Fs mi z (mi 1 5).toNat r9) G n0 6 mi mr 5 [some (.ref (n0 + 461)), some (.int (jI z)), some (.int (jI x)), some (.int (jI (j : Int))), x4, x5] [] := by
    intro n
    induction n using Nat.strongRecOn with
    | ind n ih_loop =>
      intro j x x4 x5 hj hF hn
      have hb := Fs_b hF
      refine w_iload_n X dX4_firstLeading_5 rfl ?_
      refine w_aload_n X dX4_firstLeading_6 rfl ?_
      refine w_get X (by decide) (σ_461 G n0 _ _) rfl gW_X4 0 (by decide) gF_X4_60 rfl dX4_firstLeading_7 ?_
      refine w_getN X (by decide) (σ_1 G n0 _ _) rfl gW_X5 5 (by decide) gF_X4_135 rfl dX4_firstLeading_10 ?_
      refine w_icmp_ge X 95 dX4_firstLeading_13 (by decide) (fun c13_1 => ?_) (fun c13_1 => ?_)
      ·
        refine w_iload_n X dX4_firstLeading_95 rfl ?_
        refine s_iret X hr dX4_firstLeading_96 ?_
        exact ⟨rfl, rfl, by rw [show (mi 1 5).toNat = j by omega]; exact hF⟩
      ·
        obtain ⟨hgr1, hgr2⟩ := hGr j (by omega)
        refine w_aload_n X dX4_firstLeading_16 rfl ?_
        refine w_get X (by decide) (σ_461 G n0 _ _) rfl gW_X4 6 (by decide) gF_X4_36 rfl dX4_firstLeading_17 ?_
        refine w_iload_n X dX4_firstLeading_20 rfl ?_
        refine w_iload_n X dX4_firstLeading_21 rfl ?_
        refine s_callVi X _ (c_X2_of_g (l := l) (G := G) (n0 := n0) ⟨by omega, by omega⟩) gM_X4_163 gI_yX2_of gS_yX2_of gN_X2 gC_yX2_of (by decide) (σ_469 G n0 _ _) rfl dX4_firstLeading_22 hl_yX2_of ⟨Nat.le_of_ble_eq_true rfl, Nat.le_of_ble_eq_true rfl⟩ (Nat.le_of_ble_eq_true rfl) rfl (fun r1 mi1 mr1 h1 => ?_)
        obtain ⟨rfl, rfl, h1⟩ := h1
        change r1 = Gv mi z j at h1
        subst h1
        refine w_ist6_4 X dX4_firstLeading_25 ?_
        refine w_aload_n X dX4_firstLeading_27 rfl ?_
        refine w_iload X dX4_firstLeading_28 rfl ?_
        refine s_callVi X _ (c_X4_isPlace (l := l) (G := G) (n0 := n0) hcc (by first | assumption | (refine ⟨?_, ?_⟩ <;> omega))) gM_X4_122 gI_yX4_isPlace gS_yX4_isPlace gN_X4 gC_yX4_isPlace (by decide) (σ_461 G n0 _ _) rfl dX4_firstLeading_30 hl_yX4_isPlace ⟨Nat.le_of_ble_eq_true rfl, Nat.le_of_ble_eq_true rfl⟩ (Nat.le_of_ble_eq_true rfl) rfl (fun r2 mi2 mr2 h2 => ?_)
        obtain ⟨rfl, rfl, h2⟩ := h2
        refine w_if_eq X 66 dX4_firstLeading_33 (by decide) (fun c33_2 => ?_) (fun c33_2 => ?_)
        ·
          have hno : ¬ okC mi z (Gv mi z j) := by
            rintro ⟨w1, w2, w3, w4⟩
            omega
          refine w_iconst X dX4_firstLeading_66 ?_
          refine w_ist6_5 X dX4_firstLeading_67 ?_
          refine w_iload X dX4_firstLeading_69 rfl ?_
          refine w_if_eq X 89 dX4_firstLeading_71 (by decide) (fun _ => ?_) (fun h9 => absurd (by decide) h9)
          refine w_iinc6_3 X dX4_firstLeading_89 ?_
          refine w_goto X 5 dX4_firstLeading_92 (by decide) ?_
          exact ih_loop _ (by omega) (j + 1) x _ _ (by omega) (Fs_no hF hno) rfl
        ·
          have h01 := h471 (Gv mi z j).toNat (by omega)
          refine w_aload_n X dX4_firstLeading_36 rfl ?_
          refine w_get X (by decide) (σ_461 G n0 _ _) rfl gW_X4 7 (by decide) gF_X4_40 rfl dX4_firstLeading_37 ?_
          refine w_iload X dX4_firstLeading_40 rfl ?_
          refine s_zald X _ (by decide) (fun _ => σ_471 G n0 _ _) dX4_firstLeading_42 ?_ (hj := rfl)
          refine w_if_eq X 66 dX4_firstLeading_43 (by decide) (fun c43_3 => ?_) (fun c43_3 => ?_)
          ·
            have hno : ¬ okC mi z (Gv mi z j) := by
              rintro ⟨w1, w2, w3, w4⟩
              omega
            refine w_iconst X dX4_firstLeading_66 ?_
            refine w_ist6_5 X dX4_firstLeading_67 ?_
            refine w_iload X dX4_firstLeading_69 rfl ?_
            refine w_if_eq X 89 dX4_firstLeading_71 (by decide) (fun _ => ?_) (fun h9 => absurd (by decide) h9)
            refine w_iinc6_3 X dX4_firstLeading_89 ?_
            refine w_goto X 5 dX4_firstLeading_92 (by decide) ?_
            exact ih_loop _ (by omega) (j + 1) x _ _ (by omega) (Fs_no hF hno) rfl
          ·
            have hl1 := hLr (Gv mi z j)
            have hl2 := hLr z
            refine w_aload_n X dX4_firstLeading_46 rfl ?_
            refine w_iload X dX4_firstLeading_47 rfl ?_
            refine s_callVi X _ (c_X4_levelOf (l := l) (G := G) (n0 := n0) hcc (by first | assumption | (refine ⟨?_, ?_⟩ <;> omega))) gM_X4_132 gI_yX4_levelOf gS_yX4_levelOf gN_X4 gC_yX4_levelOf (by decide) (σ_461 G n0 _ _) rfl dX4_firstLeading_49 hl_yX4_levelOf ⟨Nat.le_of_ble_eq_true rfl, Nat.le_of_ble_eq_true rfl⟩ (Nat.le_of_ble_eq_true rfl) rfl (fun r3 mi3 mr3 h3 => ?_)
            obtain ⟨rfl, rfl, h3⟩ := h3
            change r3 = Lv mi (Gv mi z j) at h3
            subst h3
            refine w_aload_n X dX4_firstLeading_52 rfl ?_
            refine w_iload_n X dX4_firstLeading_53 rfl ?_
            refine s_callVi X _ (c_X4_levelOf (l := l) (G := G) (n0 := n0) hcc (by first | assumption | (refine ⟨?_, ?_⟩ <;> omega))) gM_X4_132 gI_yX4_levelOf gS_yX4_levelOf gN_X4 gC_yX4_levelOf (by decide) (σ_461 G n0 _ _) rfl dX4_firstLeading_54 hl_yX4_levelOf ⟨Nat.le_of_ble_eq_true rfl, Nat.le_of_ble_eq_true rfl⟩ (Nat.le_of_ble_eq_true rfl) rfl (fun r4 mi4 mr4 h4 => ?_)
            obtain ⟨rfl, rfl, h4⟩ := h4
            change r4 = Lv mi z at h4
            subst h4
            refine w_iconst X dX4_firstLeading_57 ?_
            refine w_iadd X dX4_firstLeading_58 ?_
            refine w_icmp_ne X 66 dX4_firstLeading_59 (by decide) (fun c59_4 => ?_) (fun c59_4 => ?_)
            ·
              have hno : ¬ okC mi z (Gv mi z j) := by
                rintro ⟨w1, w2, w3, w4⟩
                omega
              refine w_iconst X dX4_firstLeading_66 ?_
              refine w_ist6_5 X dX4_firstLeading_67 ?_
              refine w_iload X dX4_firstLeading_69 rfl ?_
              refine w_if_eq X 89 dX4_firstLeading_71 (by decide) (fun _ => ?_) (fun h9 => absurd (by decide) h9)
              refine w_iinc6_3 X dX4_firstLeading_89 ?_
              refine w_goto X 5 dX4_firstLeading_92 (by decide) ?_
              exact ih_loop _ (by omega) (j + 1) x _ _ (by omega) (Fs_no hF hno) rfl
            ·
              have hon : okC mi z (Gv mi z j) := ⟨by omega, by omega, by omega, by omega⟩
              refine w_iconst X dX4_firstLeading_62 ?_
              refine w_goto X 67 dX4_firstLeading_63 (by decide) ?_
              refine w_ist6_5 X dX4_firstLeading_67 ?_
              refine w_iload X dX4_firstLeading_69 rfl ?_
              refine w_if_eq X 89 dX4_firstLeading_71 (by decide) (fun h9 => absurd h9 (by decide)) (fun _ => ?_)
              refine w_iload_n X dX4_firstLeading_74 rfl ?_
              refine w_bipush X dX4_firstLeading_75 rfl ?_
              refine w_icmp_eq X 86 dX4_firstLeading_77 (by decide) (fun c77_5 => ?_) (fun c77_5 => ?_)
              ·
                refine w_iload X dX4_firstLeading_86 rfl ?_
                refine w_ist6_2 X dX4_firstLeading_88 ?_
                refine w_iinc6_3 X dX4_firstLeading_89 ?_
                refine w_goto X 5 dX4_firstLeading_92 (by decide) ?_
                exact ih_loop _ (by omega) (j + 1) (Gv mi z j) _ _ (by omega) (Fs_set hF hon (by omega)) rfl
              ·
                refine w_iload X dX4_firstLeading_80 rfl ?_
                refine w_iload_n X dX4_firstLeading_82 rfl ?_
                refine w_icmp_ge X 89 dX4_firstLeading_83 (by decide) (fun c83_6 => ?_) (fun c83_6 => ?_)
                ·
                  refine w_iinc6_3 X dX4_firstLeading_89 ?_
                  refine w_goto X 5 dX4_firstLeading_92 (by decide) ?_
                  exact ih_loop _ (by omega) (j + 1) x _ _ (by omega) (Fs_keep hF (by omega) (by omega)) rfl
                ·
                  refine w_iload X dX4_firstLeading_86 rfl ?_
                  refine w_ist6_2 X dX4_firstLeading_88 ?_
                  refine w_iinc6_3 X dX4_firstLeading_89 ?_
                  refine w_goto X 5 dX4_firstLeading_92 (by decide) ?_
                  exact ih_loop _ (by omega) (j + 1) (Gv mi z j) _ _ (by omega) (Fs_set hF hon (by omega)) rfl
  exact loop _ 0 (-9) _ _ (by omega) (Or.inl ⟨rfl, fun w q => by obtain ⟨j', h1, -⟩ := q; exact absurd h1 (by omega)⟩) rfl
