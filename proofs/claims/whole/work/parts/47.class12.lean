section
variable {p : Program} {l : Launch} {e : Env} {R : Room} {s : State} {m : MethodId} {args : Array Value} {below : List Frame} {meth : Method} {c : Code} {Q : State → Prop} {G : Gt} {n0 nL N : Nat} {f : Nat → va_E} {cells slots pc : Nat} {L : List (Option Value)} {st : List Value} {own : String} {cc : ByteArray}
theorem w_tabOut (X : Cx G n0 p s m args meth c cc own nL) (tgt : Nat) {dflt lo hi : Int} {offs : Array Int} {len : Nat} {z : Int} (hd : decode cc pc = .ok (.tableswitch dflt lo hi offs, len)) (ht : (pc : Int) + dflt = (tgt : Int)) (k : WW p l e R s m args below meth c Q G n0 nL N f cells slots tgt L st) (hz : rg z := by first | assumption | (refine ⟨?_, ?_⟩ <;> omega)) (h : z < lo ∨ hi < z := by omega) : WW p l e R s m args below meth c Q G n0 nL N f cells slots pc L (.int (jI z) :: st) := fun H locs ls h1 h2 h3 => lv_tableOut X.1 X.2.1 hd (by rw [jI_to hz]; exact h) ht (k H locs ls h1 h2 h3)
theorem w_tabIn (X : Cx G n0 p s m args meth c cc own nL) (tgt : Nat) {dflt lo hi : Int} {offs : Array Int} {len : Nat} {z off : Int} (hd : decode cc pc = .ok (.tableswitch dflt lo hi offs, len)) (hz : rg z) (h4 : lo ≤ z ∧ z ≤ hi) (ho : offs[(z - lo).toNat]? = some off) (ht : (pc : Int) + off = (tgt : Int)) (k : WW p l e R s m args below meth c Q G n0 nL N f cells slots tgt L st) : WW p l e R s m args below meth c Q G n0 nL N f cells slots pc L (.int (jI z) :: st) := fun H locs ls h1 h2 h3 => lv_tableIn X.1 X.2.1 hd (by rw [jI_to hz]; omega) (by rw [jI_to hz]; omega) (by rw [jI_to hz]; exact ho) ht (k H locs ls h1 h2 h3)
end
theorem gol_c {ρ ρ' : Nat → Int} (h1 : ρ' 1 = ρ 1) (h6 : ρ' 6 = ρ 6) (j : Nat) : gol ρ' j = gol ρ j := by unfold gol; rw [h1, h6]
theorem dX7_need_0 : decode cX7_need 0 = .ok (.aload_n 0, 1) := by decide +kernel
theorem dX7_need_1 : decode cX7_need 1 = .ok (.getfield 10, 3) := by decide +kernel
theorem dX7_need_4 : decode cX7_need 4 = .ok (.iload_n 1, 1) := by decide +kernel
theorem dX7_need_5 : decode cX7_need 5 = .ok (.invokevirtual 70, 3) := by decide +kernel
theorem dX7_need_8 : decode cX7_need 8 = .ok (.ifCond .eq 20, 3) := by decide +kernel
theorem dX7_need_11 : decode cX7_need 11 = .ok (.iload_n 2, 1) := by decide +kernel
theorem dX7_need_12 : decode cX7_need 12 = .ok (.bipush (-9), 2) := by decide +kernel
theorem dX7_need_14 : decode cX7_need 14 = .ok (.if_icmp .eq 16, 3) := by decide +kernel
theorem dX7_need_17 : decode cX7_need 17 = .ok (.aload_n 0, 1) := by decide +kernel
theorem dX7_need_18 : decode cX7_need 18 = .ok (.getfield 10, 3) := by decide +kernel
theorem dX7_need_21 : decode cX7_need 21 = .ok (.iload_n 2, 1) := by decide +kernel
theorem dX7_need_22 : decode cX7_need 22 = .ok (.invokevirtual 59, 3) := by decide +kernel
theorem dX7_need_25 : decode cX7_need 25 = .ok (.ifCond .ne 5, 3) := by decide +kernel
theorem dX7_need_28 : decode cX7_need 28 = .ok (.iconst (-1), 1) := by decide +kernel
theorem dX7_need_29 : decode cX7_need 29 = .ok (.ireturn, 1) := by decide +kernel
theorem dX7_need_30 : decode cX7_need 30 = .ok (.aload_n 0, 1) := by decide +kernel
theorem dX7_need_31 : decode cX7_need 31 = .ok (.getfield 10, 3) := by decide +kernel
theorem dX7_need_34 : decode cX7_need 34 = .ok (.getfield 73, 3) := by decide +kernel
theorem dX7_need_37 : decode cX7_need 37 = .ok (.iload_n 1, 1) := by decide +kernel
theorem dX7_need_38 : decode cX7_need 38 = .ok (.aaload, 1) := by decide +kernel
theorem dX7_need_39 : decode cX7_need 39 = .ok (.astore_n 3, 1) := by decide +kernel
theorem dX7_need_40 : decode cX7_need 40 = .ok (.aload_n 3, 1) := by decide +kernel
theorem dX7_need_41 : decode cX7_need 41 = .ok (.getfield 77, 3) := by decide +kernel
theorem dX7_need_44 : decode cX7_need 44 = .ok (.istore 4, 2) := by decide +kernel
theorem dX7_need_46 : decode cX7_need 46 = .ok (.aload_n 3, 1) := by decide +kernel
theorem dX7_need_47 : decode cX7_need 47 = .ok (.iload_n 2, 1) := by decide +kernel
theorem dX7_need_48 : decode cX7_need 48 = .ok (.putfield 77, 3) := by decide +kernel
theorem dX7_need_51 : decode cX7_need 51 = .ok (.aload_n 0, 1) := by decide +kernel
theorem dX7_need_52 : decode cX7_need 52 = .ok (.invokevirtual 50, 3) := by decide +kernel
theorem dX7_need_55 : decode cX7_need 55 = .ok (.iload 4, 2) := by decide +kernel
theorem dX7_need_57 : decode cX7_need 57 = .ok (.ireturn, 1) := by decide +kernel
theorem hl_yX7_need : (yX7_need.cls ≠ "java/lang/invoke/MethodHandle" ∧ yX7_need.cls ≠ "java/lang/invoke/VarHandle") ∧ (parseMethodDescriptor yX7_need.desc).map (fun d => d.parameters.length) = some 2 := by decide +kernel
set_option maxRecDepth 20000 in
set_option maxHeartbeats 4000000 in
theorem c_X7_need {l : Launch} {G : Gt} {n0 : Nat} {mi : Nat → Nat → Int} {mr : Nat → Nat → Nat} {K : Nat → Nat → Int} {L : Lws} {set : Int} {H : V5} {o : Int} (hV : CV K L set H o mi mr) {i z : Int} (hi : rg i) (hz : rg z) : Ci l yX7_need cX7_need 5 .int 4 G n0 [.ref (n0 + 0), .int (jI i), .int (jI z)] mi mr (fun r9 mi9 mr9 => (¬ ((0 ≤ i ∧ i < L.2.1) ∧ (z = -9 ∨ 0 ≤ z ∧ z < L.1)) ∧ r9 = -1 ∧ mi = mi9 ∧ mr = mr9) ∨ ((0 ≤ i ∧ i < L.2.1) ∧ (z = -9 ∨ 0 ≤ z ∧ z < L.1) ∧ r9 = L.2.2.2.1 i.toNat 7 ∧ ∃ ρ : Nat → Int, ((∀ j : Nat, j ≠ 7 → ρ j = L.2.2.2.1 i.toNat j) ∧ ρ 7 = z) ∧ CV K (L.1, L.2.1, L.2.2.1, fun j => if j = i.toNat then ρ else L.2.2.2.1 j, L.2.2.2.2) set H (-3) mi9 mr9)) := by
  refine Ct_of (by decide +kernel) (by intro v hv; simp at hv; rcases hv with rfl | rfl | rfl <;> rfl) (Nat.le_of_ble_eq_true rfl) ?_
  intro p e s m args below meth c9 X hr hname
  show WW _ _ _ _ _ _ _ _ _ _ _ _ _ _ _ _ _ _ _ [some (.ref (n0 + 0)), some (.int (jI i)), some (.int (jI z)), none, none] _
  have hW := hV.1
  have hO := hV.2.1
  have hC := hV.2.2.1
  have hH := hV.2.2.2.2.1
  have hHb := HA_b hH
  have hVo := CV_o hV
  have hoo : mi 44 6 = o := hV.2.2.2.2.2.2.1
  have hsc := hW.1
  have hC1 := hC.1
  have hL3 := hW.2.2.1
  refine w_aload_n X dX7_need_0 rfl ?_
  refine w_get X (by decide) (σ_0 G n0 _ _) rfl gW_X7 0 (by decide) gF_X7_10 rfl dX7_need_1 ?_
  refine w_iload_n X dX7_need_4 rfl ?_
  refine s_callVi X _ (c_X5_isRule (l := l) (G := G) (n0 := n0) hW.2.2.1 (by first | assumption | (refine ⟨?_, ?_⟩ <;> omega))) gM_X7_70 gI_yX5_isRule gS_yX5_isRule gN_X5 gC_yX5_isRule (by decide) (σ_1 G n0 _ _) rfl dX7_need_5 hl_yX5_isRule ⟨Nat.le_of_ble_eq_true rfl, Nat.le_of_ble_eq_true rfl⟩ (Nat.le_of_ble_eq_true rfl) rfl (fun r1 mi1 mr1 h1 => ?_)
  obtain ⟨rfl, rfl, h1⟩ := h1
  refine w_if_eq X 28 dX7_need_8 (by decide) (fun c8_1 => ?_) (fun c8_1 => ?_)
  ·
    refine w_iconst X dX7_need_28 ?_
    refine s_iret X hr dX7_need_29 ?_
    exact Or.inl ⟨by rw [hC1, hC.2.1]; rintro ⟨w1, w2⟩; omega, rfl, rfl, rfl⟩
  ·
    refine w_iload_n X dX7_need_11 rfl ?_
    refine w_bipush X dX7_need_12 rfl ?_
    refine w_icmp_eq X 30 dX7_need_14 (by decide) (fun c14_2 => ?_) (fun c14_2 => ?_)
    ·
      have hi2 : 0 ≤ i ∧ i < mi 1 5 := by omega
      have hz2 : z = -9 ∨ 0 ≤ z ∧ z < mi 1 3 := by omega
      have hrv := hW.2.2.2.2.1 i.toNat (by omega)
      have hru := hC.2.2.2.1 i.toNat (by omega)
      have hk12 : i.toNat < 12 := by omega
      refine w_aload_n X dX7_need_30 rfl ?_
      refine w_get X (by decide) (σ_0 G n0 _ _) rfl gW_X7 0 (by decide) gF_X7_10 rfl dX7_need_31 ?_
      refine w_getN X (by decide) (σ_1 G n0 _ _) rfl gW_X5 0 (by decide) gF_X7_73 rfl dX7_need_34 ?_
      refine w_iload_n X dX7_need_37 rfl ?_
      refine s_aald X (t := 3) (i.toNat) (by decide) (σ_2 G n0 _ _) rfl dX7_need_38 ?_
      refine w_ast5_3 X dX7_need_39 ?_
      refine w_aload_n X dX7_need_40 rfl ?_
      refine w_getN X (isRu_k (ru_2 (by omega))) (σ_ru G n0 _ _ (ru_2 (by omega))) rfl gW_X6 7 (by decide) gF_X7_77 rfl dX7_need_41 ?_
      refine w_ist5_4 X dX7_need_44 ?_
      refine w_aload_n X dX7_need_46 rfl ?_
      refine w_iload_n X dX7_need_47 rfl ?_
      refine w_putN X (isRu_k (ru_2 (by omega))) (σ_ru G n0 _ _ (ru_2 (by omega))) rfl gW_X6 tyX6 tyX6_ok nmX6 7 (by decide) gF_X7_77 rfl rfl rfl (Nat.le_of_ble_eq_true rfl) dX7_need_48 (WW.eqf (sp_ru_7 (ru_2 (by omega)) _) ?_)
      refine w_aload_n X dX7_need_51 rfl ?_
      refine s_callVv X _ (c_X7_forgetFindings (l := l) (G := G) (n0 := n0)) gM_X7_50 gI_yX7_forgetFindings gS_yX7_forgetFindings gN_X7 gC_yX7_forgetFindings (by decide) (σ_0 G n0 _ _) rfl dX7_need_52 hl_yX7_forgetFindings ⟨Nat.le_of_ble_eq_true rfl, Nat.le_of_ble_eq_true rfl⟩ (Nat.le_of_ble_eq_true rfl) rfl (fun mi2 mr2 h2 => ?_)
      obtain ⟨rfl, rfl⟩ := h2
      refine w_iload X dX7_need_55 rfl ?_
      refine s_iret X hr dX7_need_57 ?_
      have hwas : mi (6 + 2 * i.toNat) 7 = L.2.2.2.1 i.toNat 7 := by rw [hru]
      have g1 : ∀ a, a ≠ 44 → a ≠ 461 → a ≠ 6 + 2 * i.toNat → up2 (up2 (up2 mi (6 + 2 * i.toNat) 7 z) 44 6 (-3)) 461 9 (-9) a = mi a := fun a h1 h2 h3 => by rw [up2_k _ _ _ _ h2, up2_k _ _ _ _ h1, up2_k _ _ _ _ h3]
      have gk : ∀ j : Nat, up2 (up2 (up2 mi (6 + 2 * i.toNat) 7 z) 44 6 (-3)) 461 9 (-9) (6 + 2 * i.toNat) j = if j = 7 then z else mi (6 + 2 * i.toNat) j := fun j => by
        rw [up2_k _ _ _ _ (by omega), up2_k _ _ _ _ (by omega)]
        by_cases q : j = 7
        · rw [if_pos q, q, up2_s]
        · rw [if_neg q, up2_j _ _ _ _ q]
      have g44 : up2 (up2 (up2 mi (6 + 2 * i.toNat) 7 z) 44 6 (-3)) 461 9 (-9) 44 6 = -3 := by rw [up2_k _ _ _ _ (by decide), up2_s]
      have g461 : up2 (up2 (up2 mi (6 + 2 * i.toNat) 7 z) 44 6 (-3)) 461 9 (-9) 461 9 = -9 := up2_s _ _ _ _
      generalize up2 (up2 (up2 mi (6 + 2 * i.toNat) 7 z) 44 6 (-3)) 461 9 (-9) = M at *
      have e1 : M 1 = mi 1 := g1 1 (by omega) (by omega) (by omega)
      have hgol : ∀ j : Nat, gol (M (6 + 2 * i.toNat)) j = gol (mi (6 + 2 * i.toNat)) j := fun j => gol_c (by rw [gk, if_neg (by decide)]) (by rw [gk, if_neg (by decide)]) j
      have hRV : RV (mi 1 3) M (6 + 2 * i.toNat) := by
        obtain ⟨q1, q2, q3, q4, q5, q6, q7, q8⟩ := hrv
        refine ⟨by rw [gk, if_neg (by decide)]; exact q1, by rw [gk, if_neg (by decide)]; exact q2, by rw [gk, if_neg (by decide)]; exact q3, by rw [gk, if_neg (by decide), gk, if_neg (by decide), gk, if_neg (by decide)]; exact q4, by rw [gk, if_neg (by decide)]; exact q5, by rw [gk, if_pos rfl]; exact hz2, q7, fun j hj => by rw [hgol j, g1 _ (by omega) (by omega) (by omega)]; exact q8 j hj⟩
      refine Or.inr ⟨by rw [hC.2.1]; exact hi2, by rw [hC1]; exact hz2, hwas, M (6 + 2 * i.toNat), ⟨fun j hj => by rw [gk, if_neg hj, hru], by rw [gk, if_pos rfl]⟩, ⟨by rw [e1]; exact hW.1, by rw [e1]; exact hW.2.1, by rw [e1]; exact hW.2.2.1, by rw [e1]; exact hW.2.2.2.1, fun i2 hi => ?_, fun i2 hi => ?_⟩, ⟨hO.1, fun j hj => ?_, hO.2.2⟩, ⟨by rw [e1]; exact hC.1, by rw [e1]; exact hC.2.1, by rw [e1]; exact hC.2.2.1, fun j hj => ?_, fun b hb => ?_⟩, by rw [e1]; exact hV.2.2.2.1, ⟨hH.1, hH.2.1, by rw [g1 43 (by omega) (by omega) (by omega)]; exact hH.2.2⟩, SkP_3 hV.2.2.2.2.2.1 (fun a h1 h2 => g1 a (by omega) (by omega) (by omega)) g44, g44, fun a ha => (g1 a (by omega) (by omega) (by omega)).trans (hV.2.2.2.2.2.2.2.1 a ha), Or.inl g461, fun z' h1 h2 h3 => by omega⟩
      · rw [e1] at hi ⊢
        by_cases q : i2 = i.toNat
        · rw [q]; exact hRV
        · exact RV_fr (hW.2.2.2.2.1 i2 hi) (g1 _ (by omega) (by omega) (by omega)) (g1 _ (by omega) (by omega) (by omega))
      · rw [e1] at hi
        have := hW.2.2.2.1
        exact CB_fr (hW.2.2.2.2.2 i2 hi) (g1 _ (by omega) (by omega) (by omega))
      · show RO L.1 (if j = i.toNat then M (6 + 2 * i.toNat) else L.2.2.2.1 j)
        by_cases q : j = i.toNat
        · rw [if_pos q, hC1]; exact RV_o hRV
        · rw [if_neg q]; exact hO.2.1 j hj
      · show (if j = i.toNat then M (6 + 2 * i.toNat) else L.2.2.2.1 j) = _
        rw [e1] at hj
        by_cases q : j = i.toNat
        · rw [if_pos q, q]
        · rw [if_neg q, g1 _ (by omega) (by omega) (by omega)]
          exact hC.2.2.2.1 j hj
      · rw [e1] at hb
        have := hW.2.2.2.1
        show L.2.2.2.2 b = _
        rw [g1 _ (by omega) (by omega) (by omega)]
        exact hC.2.2.2.2 b hb
    ·
      refine w_aload_n X dX7_need_17 rfl ?_
      refine w_get X (by decide) (σ_0 G n0 _ _) rfl gW_X7 0 (by decide) gF_X7_10 rfl dX7_need_18 ?_
      refine w_iload_n X dX7_need_21 rfl ?_
      refine s_callVi X _ (c_X5_isState (l := l) (G := G) (n0 := n0) hsc (by first | assumption | (refine ⟨?_, ?_⟩ <;> omega))) gM_X7_59 gI_yX5_isState gS_yX5_isState gN_X5 gC_yX5_isState (by decide) (σ_1 G n0 _ _) rfl dX7_need_22 hl_yX5_isState ⟨Nat.le_of_ble_eq_true rfl, Nat.le_of_ble_eq_true rfl⟩ (Nat.le_of_ble_eq_true rfl) rfl (fun r2 mi2 mr2 h2 => ?_)
      obtain ⟨rfl, rfl, h2⟩ := h2
      refine w_if_ne X 30 dX7_need_25 (by decide) (fun c25_3 => ?_) (fun c25_3 => ?_)
      ·
        have hi2 : 0 ≤ i ∧ i < mi 1 5 := by omega
        have hz2 : z = -9 ∨ 0 ≤ z ∧ z < mi 1 3 := by omega
        have hrv := hW.2.2.2.2.1 i.toNat (by omega)
        have hru := hC.2.2.2.1 i.toNat (by omega)
        have hk12 : i.toNat < 12 := by omega
        refine w_aload_n X dX7_need_30 rfl ?_
        refine w_get X (by decide) (σ_0 G n0 _ _) rfl gW_X7 0 (by decide) gF_X7_10 rfl dX7_need_31 ?_
        refine w_getN X (by decide) (σ_1 G n0 _ _) rfl gW_X5 0 (by decide) gF_X7_73 rfl dX7_need_34 ?_
        refine w_iload_n X dX7_need_37 rfl ?_
        refine s_aald X (t := 3) (i.toNat) (by decide) (σ_2 G n0 _ _) rfl dX7_need_38 ?_
        refine w_ast5_3 X dX7_need_39 ?_
        refine w_aload_n X dX7_need_40 rfl ?_
        refine w_getN X (isRu_k (ru_2 (by omega))) (σ_ru G n0 _ _ (ru_2 (by omega))) rfl gW_X6 7 (by decide) gF_X7_77 rfl dX7_need_41 ?_
        refine w_ist5_4 X dX7_need_44 ?_
        refine w_aload_n X dX7_need_46 rfl ?_
        refine w_iload_n X dX7_need_47 rfl ?_
        refine w_putN X (isRu_k (ru_2 (by omega))) (σ_ru G n0 _ _ (ru_2 (by omega))) rfl gW_X6 tyX6 tyX6_ok nmX6 7 (by decide) gF_X7_77 rfl rfl rfl (Nat.le_of_ble_eq_true rfl) dX7_need_48 (WW.eqf (sp_ru_7 (ru_2 (by omega)) _) ?_)
        refine w_aload_n X dX7_need_51 rfl ?_
        refine s_callVv X _ (c_X7_forgetFindings (l := l) (G := G) (n0 := n0)) gM_X7_50 gI_yX7_forgetFindings gS_yX7_forgetFindings gN_X7 gC_yX7_forgetFindings (by decide) (σ_0 G n0 _ _) rfl dX7_need_52 hl_yX7_forgetFindings ⟨Nat.le_of_ble_eq_true rfl, Nat.le_of_ble_eq_true rfl⟩ (Nat.le_of_ble_eq_true rfl) rfl (fun mi3 mr3 h3 => ?_)
        obtain ⟨rfl, rfl⟩ := h3
        refine w_iload X dX7_need_55 rfl ?_
        refine s_iret X hr dX7_need_57 ?_
        have hwas : mi (6 + 2 * i.toNat) 7 = L.2.2.2.1 i.toNat 7 := by rw [hru]
        have g1 : ∀ a, a ≠ 44 → a ≠ 461 → a ≠ 6 + 2 * i.toNat → up2 (up2 (up2 mi (6 + 2 * i.toNat) 7 z) 44 6 (-3)) 461 9 (-9) a = mi a := fun a h1 h2 h3 => by rw [up2_k _ _ _ _ h2, up2_k _ _ _ _ h1, up2_k _ _ _ _ h3]
        have gk : ∀ j : Nat, up2 (up2 (up2 mi (6 + 2 * i.toNat) 7 z) 44 6 (-3)) 461 9 (-9) (6 + 2 * i.toNat) j = if j = 7 then z else mi (6 + 2 * i.toNat) j := fun j => by
          rw [up2_k _ _ _ _ (by omega), up2_k _ _ _ _ (by omega)]
          by_cases q : j = 7
          · rw [if_pos q, q, up2_s]
          · rw [if_neg q, up2_j _ _ _ _ q]
        have g44 : up2 (up2 (up2 mi (6 + 2 * i.toNat) 7 z) 44 6 (-3)) 461 9 (-9) 44 6 = -3 := by rw [up2_k _ _ _ _ (by decide), up2_s]
        have g461 : up2 (up2 (up2 mi (6 + 2 * i.toNat) 7 z) 44 6 (-3)) 461 9 (-9) 461 9 = -9 := up2_s _ _ _ _
        generalize up2 (up2 (up2 mi (6 + 2 * i.toNat) 7 z) 44 6 (-3)) 461 9 (-9) = M at *
        have e1 : M 1 = mi 1 := g1 1 (by omega) (by omega) (by omega)
        have hgol : ∀ j : Nat, gol (M (6 + 2 * i.toNat)) j = gol (mi (6 + 2 * i.toNat)) j := fun j => gol_c (by rw [gk, if_neg (by decide)]) (by rw [gk, if_neg (by decide)]) j
        have hRV : RV (mi 1 3) M (6 + 2 * i.toNat) := by
          obtain ⟨q1, q2, q3, q4, q5, q6, q7, q8⟩ := hrv
          refine ⟨by rw [gk, if_neg (by decide)]; exact q1, by rw [gk, if_neg (by decide)]; exact q2, by rw [gk, if_neg (by decide)]; exact q3, by rw [gk, if_neg (by decide), gk, if_neg (by decide), gk, if_neg (by decide)]; exact q4, by rw [gk, if_neg (by decide)]; exact q5, by rw [gk, if_pos rfl]; exact hz2, q7, fun j hj => by rw [hgol j, g1 _ (by omega) (by omega) (by omega)]; exact q8 j hj⟩
        refine Or.inr ⟨by rw [hC.2.1]; exact hi2, by rw [hC1]; exact hz2, hwas, M (6 + 2 * i.toNat), ⟨fun j hj => by rw [gk, if_neg hj, hru], by rw [gk, if_pos rfl]⟩, ⟨by rw [e1]; exact hW.1, by rw [e1]; exact hW.2.1, by rw [e1]; exact hW.2.2.1, by rw [e1]; exact hW.2.2.2.1, fun i2 hi => ?_, fun i2 hi => ?_⟩, ⟨hO.1, fun j hj => ?_, hO.2.2⟩, ⟨by rw [e1]; exact hC.1, by rw [e1]; exact hC.2.1, by rw [e1]; exact hC.2.2.1, fun j hj => ?_, fun b hb => ?_⟩, by rw [e1]; exact hV.2.2.2.1, ⟨hH.1, hH.2.1, by rw [g1 43 (by omega) (by omega) (by omega)]; exact hH.2.2⟩, SkP_3 hV.2.2.2.2.2.1 (fun a h1 h2 => g1 a (by omega) (by omega) (by omega)) g44, g44, fun a ha => (g1 a (by omega) (by omega) (by omega)).trans (hV.2.2.2.2.2.2.2.1 a ha), Or.inl g461, fun z' h1 h2 h3 => by omega⟩
        · rw [e1] at hi ⊢
          by_cases q : i2 = i.toNat
          · rw [q]; exact hRV
          · exact RV_fr (hW.2.2.2.2.1 i2 hi) (g1 _ (by omega) (by omega) (by omega)) (g1 _ (by omega) (by omega) (by omega))
        · rw [e1] at hi
          have := hW.2.2.2.1
          exact CB_fr (hW.2.2.2.2.2 i2 hi) (g1 _ (by omega) (by omega) (by omega))
        · show RO L.1 (if j = i.toNat then M (6 + 2 * i.toNat) else L.2.2.2.1 j)
          by_cases q : j = i.toNat
          · rw [if_pos q, hC1]; exact RV_o hRV
          · rw [if_neg q]; exact hO.2.1 j hj
        · show (if j = i.toNat then M (6 + 2 * i.toNat) else L.2.2.2.1 j) = _
          rw [e1] at hj
          by_cases q : j = i.toNat
          · rw [if_pos q, q]
          · rw [if_neg q, g1 _ (by omega) (by omega) (by omega)]
            exact hC.2.2.2.1 j hj
        · rw [e1] at hb
          have := hW.2.2.2.1
          show L.2.2.2.2 b = _
          rw [g1 _ (by omega) (by omega) (by omega)]
          exact hC.2.2.2.2 b hb
      ·
        refine w_iconst X dX7_need_28 ?_
        refine s_iret X hr dX7_need_29 ?_
        exact Or.inl ⟨by rw [hC1, hC.2.1]; rintro ⟨w1, w2⟩; omega, rfl, rfl, rfl⟩
theorem dX7_rule_0 : decode cX7_rule 0 = .ok (.aload_n 0, 1) := by decide +kernel
theorem dX7_rule_1 : decode cX7_rule 1 = .ok (.getfield 10, 3) := by decide +kernel
theorem dX7_rule_4 : decode cX7_rule 4 = .ok (.iload_n 1, 1) := by decide +kernel
theorem dX7_rule_5 : decode cX7_rule 5 = .ok (.invokevirtual 70, 3) := by decide +kernel
theorem dX7_rule_8 : decode cX7_rule 8 = .ok (.ifCond .ne 5, 3) := by decide +kernel
theorem dX7_rule_11 : decode cX7_rule 11 = .ok (.iconst (-1), 1) := by decide +kernel
theorem dX7_rule_12 : decode cX7_rule 12 = .ok (.ireturn, 1) := by decide +kernel
theorem dX7_rule_13 : decode cX7_rule 13 = .ok (.aload_n 0, 1) := by decide +kernel
theorem dX7_rule_14 : decode cX7_rule 14 = .ok (.getfield 10, 3) := by decide +kernel
theorem dX7_rule_17 : decode cX7_rule 17 = .ok (.getfield 73, 3) := by decide +kernel
theorem dX7_rule_20 : decode cX7_rule 20 = .ok (.iload_n 1, 1) := by decide +kernel
theorem dX7_rule_21 : decode cX7_rule 21 = .ok (.aaload, 1) := by decide +kernel
theorem dX7_rule_22 : decode cX7_rule 22 = .ok (.astore_n 3, 1) := by decide +kernel
theorem dX7_rule_23 : decode cX7_rule 23 = .ok (.iload_n 2, 1) := by decide +kernel
theorem dX7_rule_24 : decode cX7_rule 24 = .ok (.tableswitch 79 0 6 #[44, 49, 54, 59, 64, 69, 74], 44) := by decide +kernel
theorem dX7_rule_68 : decode cX7_rule 68 = .ok (.aload_n 3, 1) := by decide +kernel
theorem dX7_rule_69 : decode cX7_rule 69 = .ok (.getfield 82, 3) := by decide +kernel
theorem dX7_rule_72 : decode cX7_rule 72 = .ok (.ireturn, 1) := by decide +kernel
theorem dX7_rule_73 : decode cX7_rule 73 = .ok (.aload_n 3, 1) := by decide +kernel
theorem dX7_rule_74 : decode cX7_rule 74 = .ok (.getfield 85, 3) := by decide +kernel
theorem dX7_rule_77 : decode cX7_rule 77 = .ok (.ireturn, 1) := by decide +kernel
theorem dX7_rule_78 : decode cX7_rule 78 = .ok (.aload_n 3, 1) := by decide +kernel
theorem dX7_rule_79 : decode cX7_rule 79 = .ok (.getfield 88, 3) := by decide +kernel
theorem dX7_rule_82 : decode cX7_rule 82 = .ok (.ireturn, 1) := by decide +kernel
theorem dX7_rule_83 : decode cX7_rule 83 = .ok (.aload_n 3, 1) := by decide +kernel
theorem dX7_rule_84 : decode cX7_rule 84 = .ok (.getfield 91, 3) := by decide +kernel
theorem dX7_rule_87 : decode cX7_rule 87 = .ok (.ireturn, 1) := by decide +kernel
theorem dX7_rule_88 : decode cX7_rule 88 = .ok (.aload_n 3, 1) := by decide +kernel
theorem dX7_rule_89 : decode cX7_rule 89 = .ok (.getfield 94, 3) := by decide +kernel
theorem dX7_rule_92 : decode cX7_rule 92 = .ok (.ireturn, 1) := by decide +kernel
theorem dX7_rule_93 : decode cX7_rule 93 = .ok (.aload_n 3, 1) := by decide +kernel
theorem dX7_rule_94 : decode cX7_rule 94 = .ok (.getfield 97, 3) := by decide +kernel
theorem dX7_rule_97 : decode cX7_rule 97 = .ok (.ireturn, 1) := by decide +kernel
theorem dX7_rule_98 : decode cX7_rule 98 = .ok (.aload_n 3, 1) := by decide +kernel
theorem dX7_rule_99 : decode cX7_rule 99 = .ok (.getfield 77, 3) := by decide +kernel
theorem dX7_rule_102 : decode cX7_rule 102 = .ok (.ireturn, 1) := by decide +kernel
theorem dX7_rule_103 : decode cX7_rule 103 = .ok (.bipush (-2), 2) := by decide +kernel
theorem dX7_rule_105 : decode cX7_rule 105 = .ok (.ireturn, 1) := by decide +kernel
theorem hl_yX7_rule : (yX7_rule.cls ≠ "java/lang/invoke/MethodHandle" ∧ yX7_rule.cls ≠ "java/lang/invoke/VarHandle") ∧ (parseMethodDescriptor yX7_rule.desc).map (fun d => d.parameters.length) = some 2 := by decide +kernel
set_option maxRecDepth 20000 in
set_option maxHeartbeats 4000000 in
theorem c_X7_rule {l : Launch} {G : Gt} {n0 : Nat} {mi : Nat → Nat → Int} {mr : Nat → Nat → Nat} {K : Nat → Nat → Int} {L : Lws} {set : Int} {H : V5} {o : Int} (hV : CV K L set H o mi mr) {i z : Int} (hi : rg i) (hz : rg z) : Ci l yX7_rule cX7_rule 4 .int 2 G n0 [.ref (n0 + 0), .int (jI i), .int (jI z)] mi mr (fun r9 mi9 mr9 => mi = mi9 ∧ mr = mr9 ∧ (¬ (0 ≤ i ∧ i < L.2.1) ∧ r9 = -1 ∨ (0 ≤ i ∧ i < L.2.1) ∧ ((0 ≤ z ∧ z ≤ 6) ∧ r9 = L.2.2.2.1 i.toNat (z.toNat + 1) ∨ ¬ (0 ≤ z ∧ z ≤ 6) ∧ r9 = -2))) := by
  refine Ct_of (by decide +kernel) (by intro v hv; simp at hv; rcases hv with rfl | rfl | rfl <;> rfl) (Nat.le_of_ble_eq_true rfl) ?_
  intro p e s m args below meth c9 X hr hname
  show WW _ _ _ _ _ _ _ _ _ _ _ _ _ _ _ _ _ _ _ [some (.ref (n0 + 0)), some (.int (jI i)), some (.int (jI z)), none] _
  have hW := hV.1
  have hO := hV.2.1
  have hC := hV.2.2.1
  have hH := hV.2.2.2.2.1
  have hHb := HA_b hH
  have hVo := CV_o hV
  have hoo : mi 44 6 = o := hV.2.2.2.2.2.2.1
  have hsc := hW.1
  have hC1 := hC.1
  have hL3 := hW.2.2.1
  refine w_aload_n X dX7_rule_0 rfl ?_
  refine w_get X (by decide) (σ_0 G n0 _ _) rfl gW_X7 0 (by decide) gF_X7_10 rfl dX7_rule_1 ?_
  refine w_iload_n X dX7_rule_4 rfl ?_
  refine s_callVi X _ (c_X5_isRule (l := l) (G := G) (n0 := n0) hW.2.2.1 (by first | assumption | (refine ⟨?_, ?_⟩ <;> omega))) gM_X7_70 gI_yX5_isRule gS_yX5_isRule gN_X5 gC_yX5_isRule (by decide) (σ_1 G n0 _ _) rfl dX7_rule_5 hl_yX5_isRule ⟨Nat.le_of_ble_eq_true rfl, Nat.le_of_ble_eq_true rfl⟩ (Nat.le_of_ble_eq_true rfl) rfl (fun r1 mi1 mr1 h1 => ?_)
  obtain ⟨rfl, rfl, h1⟩ := h1
  refine w_if_ne X 13 dX7_rule_8 (by decide) (fun c8_1 => ?_) (fun c8_1 => ?_)
  ·
    have hi2 : 0 ≤ i ∧ i < mi 1 5 := by omega
    have hru := hC.2.2.2.1 i.toNat (by omega)
    have hi3 : 0 ≤ i ∧ i < L.2.1 := by rw [hC.2.1]; exact hi2
    refine w_aload_n X dX7_rule_13 rfl ?_
    refine w_get X (by decide) (σ_0 G n0 _ _) rfl gW_X7 0 (by decide) gF_X7_10 rfl dX7_rule_14 ?_
    refine w_getN X (by decide) (σ_1 G n0 _ _) rfl gW_X5 0 (by decide) gF_X7_73 rfl dX7_rule_17 ?_
    refine w_iload_n X dX7_rule_20 rfl ?_
    refine s_aald X (t := 3) (i.toNat) (by decide) (σ_2 G n0 _ _) rfl dX7_rule_21 ?_
    refine w_ast4_3 X dX7_rule_22 ?_
    refine w_iload_n X dX7_rule_23 rfl ?_
    rcases (show z = 0 ∨ z = 1 ∨ z = 2 ∨ z = 3 ∨ z = 4 ∨ z = 5 ∨ z = 6 ∨ (z < 0 ∨ 6 < z) by omega) with qz | qz | qz | qz | qz | qz | qz | qz
    ·
      subst qz
      refine w_tabIn X 68 dX7_rule_24 ⟨by decide, by decide⟩ (by decide) rfl rfl ?_
      refine w_aload_n X dX7_rule_68 rfl ?_
      refine w_getN X (isRu_k (ru_2 (by omega))) (σ_ru G n0 _ _ (ru_2 (by omega))) rfl gW_X6 1 (by decide) gF_X7_82 rfl dX7_rule_69 ?_
      refine s_iret X hr dX7_rule_72 ?_
      exact ⟨rfl, rfl, Or.inr ⟨hi3, Or.inl ⟨⟨by decide, by decide⟩, by rw [hru]; rfl⟩⟩⟩
    ·
      subst qz
      refine w_tabIn X 73 dX7_rule_24 ⟨by decide, by decide⟩ (by decide) rfl rfl ?_
      refine w_aload_n X dX7_rule_73 rfl ?_
      refine w_getN X (isRu_k (ru_2 (by omega))) (σ_ru G n0 _ _ (ru_2 (by omega))) rfl gW_X6 2 (by decide) gF_X7_85 rfl dX7_rule_74 ?_
      refine s_iret X hr dX7_rule_77 ?_
      exact ⟨rfl, rfl, Or.inr ⟨hi3, Or.inl ⟨⟨by decide, by decide⟩, by rw [hru]; rfl⟩⟩⟩
    ·
      subst qz
      refine w_tabIn X 78 dX7_rule_24 ⟨by decide, by decide⟩ (by decide) rfl rfl ?_
      refine w_aload_n X dX7_rule_78 rfl ?_
      refine w_getN X (isRu_k (ru_2 (by omega))) (σ_ru G n0 _ _ (ru_2 (by omega))) rfl gW_X6 3 (by decide) gF_X7_88 rfl dX7_rule_79 ?_
      refine s_iret X hr dX7_rule_82 ?_
      exact ⟨rfl, rfl, Or.inr ⟨hi3, Or.inl ⟨⟨by decide, by decide⟩, by rw [hru]; rfl⟩⟩⟩
    ·
      subst qz
      refine w_tabIn X 83 dX7_rule_24 ⟨by decide, by decide⟩ (by decide) rfl rfl ?_
      refine w_aload_n X dX7_rule_83 rfl ?_
      refine w_getN X (isRu_k (ru_2 (by omega))) (σ_ru G n0 _ _ (ru_2 (by omega))) rfl gW_X6 4 (by decide) gF_X7_91 rfl dX7_rule_84 ?_
      refine s_iret X hr dX7_rule_87 ?_
      exact ⟨rfl, rfl, Or.inr ⟨hi3, Or.inl ⟨⟨by decide, by decide⟩, by rw [hru]; rfl⟩⟩⟩
    ·
      subst qz
      refine w_tabIn X 88 dX7_rule_24 ⟨by decide, by decide⟩ (by decide) rfl rfl ?_
      refine w_aload_n X dX7_rule_88 rfl ?_
      refine w_getN X (isRu_k (ru_2 (by omega))) (σ_ru G n0 _ _ (ru_2 (by omega))) rfl gW_X6 5 (by decide) gF_X7_94 rfl dX7_rule_89 ?_
      refine s_iret X hr dX7_rule_92 ?_
      exact ⟨rfl, rfl, Or.inr ⟨hi3, Or.inl ⟨⟨by decide, by decide⟩, by rw [hru]; rfl⟩⟩⟩
    ·
      subst qz
      refine w_tabIn X 93 dX7_rule_24 ⟨by decide, by decide⟩ (by decide) rfl rfl ?_
      refine w_aload_n X dX7_rule_93 rfl ?_
      refine w_getN X (isRu_k (ru_2 (by omega))) (σ_ru G n0 _ _ (ru_2 (by omega))) rfl gW_X6 6 (by decide) gF_X7_97 rfl dX7_rule_94 ?_
      refine s_iret X hr dX7_rule_97 ?_
      exact ⟨rfl, rfl, Or.inr ⟨hi3, Or.inl ⟨⟨by decide, by decide⟩, by rw [hru]; rfl⟩⟩⟩
    ·
      subst qz
      refine w_tabIn X 98 dX7_rule_24 ⟨by decide, by decide⟩ (by decide) rfl rfl ?_
      refine w_aload_n X dX7_rule_98 rfl ?_
      refine w_getN X (isRu_k (ru_2 (by omega))) (σ_ru G n0 _ _ (ru_2 (by omega))) rfl gW_X6 7 (by decide) gF_X7_77 rfl dX7_rule_99 ?_
      refine s_iret X hr dX7_rule_102 ?_
      exact ⟨rfl, rfl, Or.inr ⟨hi3, Or.inl ⟨⟨by decide, by decide⟩, by rw [hru]; rfl⟩⟩⟩
    ·
      refine w_tabOut X 103 dX7_rule_24 rfl ?_
      refine w_bipush X dX7_rule_103 rfl ?_
      refine s_iret X hr dX7_rule_105 ?_
      exact ⟨rfl, rfl, Or.inr ⟨hi3, Or.inr ⟨by omega, rfl⟩⟩⟩
  ·
    refine w_iconst X dX7_rule_11 ?_
    refine s_iret X hr dX7_rule_12 ?_
    exact ⟨rfl, rfl, Or.inl ⟨by rw [hC.2.1]; omega, rfl⟩⟩
theorem dX7_total_0 : decode cX7_total 0 = .ok (.iload_n 1, 1) := by decide +kernel
theorem dX7_total_1 : decode cX7_total 1 = .ok (.tableswitch 75 0 4 #[35, 43, 51, 59, 67], 35) := by decide +kernel
theorem dX7_total_36 : decode cX7_total 36 = .ok (.aload_n 0, 1) := by decide +kernel
theorem dX7_total_37 : decode cX7_total 37 = .ok (.getfield 10, 3) := by decide +kernel
theorem dX7_total_40 : decode cX7_total 40 = .ok (.getfield 39, 3) := by decide +kernel
theorem dX7_total_43 : decode cX7_total 43 = .ok (.ireturn, 1) := by decide +kernel
theorem dX7_total_44 : decode cX7_total 44 = .ok (.aload_n 0, 1) := by decide +kernel
theorem dX7_total_45 : decode cX7_total 45 = .ok (.getfield 10, 3) := by decide +kernel
theorem dX7_total_48 : decode cX7_total 48 = .ok (.getfield 188, 3) := by decide +kernel
theorem dX7_total_51 : decode cX7_total 51 = .ok (.ireturn, 1) := by decide +kernel
theorem dX7_total_52 : decode cX7_total 52 = .ok (.aload_n 0, 1) := by decide +kernel
theorem dX7_total_53 : decode cX7_total 53 = .ok (.getfield 10, 3) := by decide +kernel
theorem dX7_total_56 : decode cX7_total 56 = .ok (.getfield 103, 3) := by decide +kernel
theorem dX7_total_59 : decode cX7_total 59 = .ok (.ireturn, 1) := by decide +kernel
theorem dX7_total_60 : decode cX7_total 60 = .ok (.aload_n 0, 1) := by decide +kernel
theorem dX7_total_61 : decode cX7_total 61 = .ok (.getfield 19, 3) := by decide +kernel
theorem dX7_total_64 : decode cX7_total 64 = .ok (.invokevirtual 113, 3) := by decide +kernel
theorem dX7_total_67 : decode cX7_total 67 = .ok (.ireturn, 1) := by decide +kernel
theorem dX7_total_68 : decode cX7_total 68 = .ok (.aload_n 0, 1) := by decide +kernel
theorem dX7_total_69 : decode cX7_total 69 = .ok (.getfield 10, 3) := by decide +kernel
theorem dX7_total_72 : decode cX7_total 72 = .ok (.getfield 53, 3) := by decide +kernel
theorem dX7_total_75 : decode cX7_total 75 = .ok (.ireturn, 1) := by decide +kernel
theorem dX7_total_76 : decode cX7_total 76 = .ok (.bipush (-2), 2) := by decide +kernel
theorem dX7_total_78 : decode cX7_total 78 = .ok (.ireturn, 1) := by decide +kernel
theorem hl_yX7_total : (yX7_total.cls ≠ "java/lang/invoke/MethodHandle" ∧ yX7_total.cls ≠ "java/lang/invoke/VarHandle") ∧ (parseMethodDescriptor yX7_total.desc).map (fun d => d.parameters.length) = some 1 := by decide +kernel
set_option maxRecDepth 20000 in
set_option maxHeartbeats 4000000 in
theorem c_X7_total {l : Launch} {G : Gt} {n0 : Nat} {mi : Nat → Nat → Int} {mr : Nat → Nat → Nat} {K : Nat → Nat → Int} {L : Lws} {set : Int} {H : V5} {o : Int} (hV : CV K L set H o mi mr) {z : Int} (hz : rg z) : Ci l yX7_total cX7_total 2 .int 2 G n0 [.ref (n0 + 0), .int (jI z)] mi mr (fun r9 mi9 mr9 => mi = mi9 ∧ mr = mr9 ∧ (z = 0 ∧ r9 = L.1 ∨ z = 1 ∧ r9 = L.2.1 ∨ z = 2 ∧ r9 = L.2.2.1 ∨ z = 3 ∧ r9 = sm H ∨ z = 4 ∧ r9 = set ∨ (z < 0 ∨ 4 < z) ∧ r9 = -2)) := by
  refine Ct_of (by decide +kernel) (by intro v hv; simp at hv; rcases hv with rfl | rfl <;> rfl) (Nat.le_of_ble_eq_true rfl) ?_
  intro p e s m args below meth c9 X hr hname
  show WW _ _ _ _ _ _ _ _ _ _ _ _ _ _ _ _ _ _ _ [some (.ref (n0 + 0)), some (.int (jI z))] _
  have hW := hV.1
  have hO := hV.2.1
  have hC := hV.2.2.1
  have hH := hV.2.2.2.2.1
  have hHb := HA_b hH
  have hVo := CV_o hV
  have hoo : mi 44 6 = o := hV.2.2.2.2.2.2.1
  have hsc := hW.1
  have hC1 := hC.1
  refine w_iload_n X dX7_total_0 rfl ?_
  rcases (show z = 0 ∨ z = 1 ∨ z = 2 ∨ z = 3 ∨ z = 4 ∨ (z < 0 ∨ 4 < z) by omega) with qz | qz | qz | qz | qz | qz
  ·
    subst qz
    refine w_tabIn X 36 dX7_total_1 ⟨by decide, by decide⟩ (by decide) rfl rfl ?_
    refine w_aload_n X dX7_total_36 rfl ?_
    refine w_get X (by decide) (σ_0 G n0 _ _) rfl gW_X7 0 (by decide) gF_X7_10 rfl dX7_total_37 ?_
    refine w_getN X (by decide) (σ_1 G n0 _ _) rfl gW_X5 3 (by decide) gF_X7_39 rfl dX7_total_40 ?_
    refine s_iret X hr dX7_total_43 ?_
    exact ⟨rfl, rfl, Or.inl ⟨rfl, hC1.symm⟩⟩
  ·
    subst qz
    refine w_tabIn X 44 dX7_total_1 ⟨by decide, by decide⟩ (by decide) rfl rfl ?_
    refine w_aload_n X dX7_total_44 rfl ?_
    refine w_get X (by decide) (σ_0 G n0 _ _) rfl gW_X7 0 (by decide) gF_X7_10 rfl dX7_total_45 ?_
    refine w_getN X (by decide) (σ_1 G n0 _ _) rfl gW_X5 5 (by decide) gF_X7_188 rfl dX7_total_48 ?_
    refine s_iret X hr dX7_total_51 ?_
    exact ⟨rfl, rfl, Or.inr (Or.inl ⟨rfl, hC.2.1.symm⟩)⟩
  ·
    subst qz
    refine w_tabIn X 52 dX7_total_1 ⟨by decide, by decide⟩ (by decide) rfl rfl ?_
    refine w_aload_n X dX7_total_52 rfl ?_
    refine w_get X (by decide) (σ_0 G n0 _ _) rfl gW_X7 0 (by decide) gF_X7_10 rfl dX7_total_53 ?_
    refine w_getN X (by decide) (σ_1 G n0 _ _) rfl gW_X5 6 (by decide) gF_X7_103 rfl dX7_total_56 ?_
    refine s_iret X hr dX7_total_59 ?_
    exact ⟨rfl, rfl, Or.inr (Or.inr (Or.inl ⟨rfl, hC.2.2.1.symm⟩))⟩
  ·
    subst qz
    refine w_tabIn X 60 dX7_total_1 ⟨by decide, by decide⟩ (by decide) rfl rfl ?_
    refine w_aload_n X dX7_total_60 rfl ?_
    refine w_get X (by decide) (σ_0 G n0 _ _) rfl gW_X7 1 (by decide) gF_X7_19 rfl dX7_total_61 ?_
    refine s_callVi X _ (c_X3_sum (l := l) (G := G) (n0 := n0) cr_42) gM_X7_113 gI_yX3_sum gS_yX3_sum gN_X3 gC_yX3_sum (isCr_k cr_42) (σ_cr G n0 _ _ cr_42) rfl dX7_total_64 hl_yX3_sum ⟨Nat.le_of_ble_eq_true rfl, Nat.le_of_ble_eq_true rfl⟩ (Nat.le_of_ble_eq_true rfl) rfl (fun r1 mi1 mr1 h1 => ?_)
    obtain ⟨rfl, rfl, h1⟩ := h1
    refine s_iret X hr dX7_total_67 ?_
    exact ⟨rfl, rfl, Or.inr (Or.inr (Or.inr (Or.inl ⟨rfl, by rw [h1]; exact hHb.2.2.2.1⟩)))⟩
  ·
    subst qz
    refine w_tabIn X 68 dX7_total_1 ⟨by decide, by decide⟩ (by decide) rfl rfl ?_
    refine w_aload_n X dX7_total_68 rfl ?_
    refine w_get X (by decide) (σ_0 G n0 _ _) rfl gW_X7 0 (by decide) gF_X7_10 rfl dX7_total_69 ?_
    refine w_getN X (by decide) (σ_1 G n0 _ _) rfl gW_X5 4 (by decide) gF_X7_53 rfl dX7_total_72 ?_
    refine s_iret X hr dX7_total_75 ?_
    exact ⟨rfl, rfl, Or.inr (Or.inr (Or.inr (Or.inr (Or.inl ⟨rfl, hV.2.2.2.1⟩))))⟩
  ·
    refine w_tabOut X 76 dX7_total_1 rfl ?_
    refine w_bipush X dX7_total_76 rfl ?_
    refine s_iret X hr dX7_total_78 ?_
    exact ⟨rfl, rfl, Or.inr (Or.inr (Or.inr (Or.inr (Or.inr ⟨by omega, rfl⟩))))⟩
