/-! ===== the model's takeItem, read ===== -/
def tQ (r : (Nat ⊕ (Nat × (Nat → Int32)))) (L : Nat) (T : Nat → Int) (c : JM) : Option Value → JM → Prop := fun v μ' => v = none ∧ ((∃ q : Nat, r = .inl q ∧ (μ'.1 0 12).toInt = (q : Int)) ∨ (∃ (e : Nat) (f' : Nat → Int32), r = .inr (e, f') ∧ e ≤ L ∧ (((SK L T e < L ∧ T (SK L T e) = 59) ∧ (μ'.1 0 12).toInt = -1 ∧ (μ'.1 0 10).toInt = (SK L T e : Int) + 1 ∧ μ'.1 1 = f') ∨ (¬ (SK L T e < L ∧ T (SK L T e) = 59) ∧ (μ'.1 0 12).toInt = (SK L T e : Nat))))) ∧ frR c μ'
theorem tQ_F {r : (Nat ⊕ (Nat × (Nat → Int32)))} {L q : Nat} {T : Nat → Int} {c μ μ' : JM} {v : Option Value} (hr : r = .inl q) (hc : frR c μ) (h : v = none ∧ (μ'.1 0 12).toInt = (q : Int) ∧ frR μ μ') : tQ r L T c v μ' := ⟨h.1, Or.inl ⟨q, hr, h.2.1⟩, frR_tr hc h.2.2⟩
theorem tQ_S {r : (Nat ⊕ (Nat × (Nat → Int32)))} {L e : Nat} {T : Nat → Int} {c μ μ' : JM} {v : Option Value} {f' : Nat → Int32} (hr : r = .inr (e, f')) (he : e ≤ L) (hc : frR c μ) (h : v = none ∧ (((SK L T e < L ∧ T (SK L T e) = 59) ∧ (μ'.1 0 12).toInt = -1 ∧ (μ'.1 0 10).toInt = (SK L T e : Int) + 1 ∧ μ'.1 1 = f') ∨ (¬ (SK L T e < L ∧ T (SK L T e) = 59) ∧ (μ'.1 0 12).toInt = (SK L T e : Nat))) ∧ frR μ μ') : tQ r L T c v μ' := ⟨h.1, Or.inr ⟨e, f', hr, he, h.2.1⟩, frR_tr hc h.2.2⟩
variable {G : JG}
set_option maxRecDepth 100000 in
set_option maxHeartbeats 4000000 in
theorem l_tailF {μ : JM} {q : Nat} (hφ : (μ.1 0 12).toInt = (q : Int)) (hat : 0 ≤ (μ.1 0 10).toInt ∧ (μ.1 0 10).toInt ≤ 150) : J G shM mX4_takeItem 171 [some (.ref 0), none, none, none, none] [] μ (fun v μ' => v = none ∧ (μ'.1 0 12).toInt = (q : Int) ∧ frR μ μ') := by
  refine J_aload_n (pc := 171) dX4_takeItem_171 rfl ?_
  refine J_getI (pc := 172) fF_X4_111 rfl rfl dX4_takeItem_172 ?_
  refine J_if_geW (pc := 175) (q : Int) hφ 191 dX4_takeItem_175 (by decide) (fun h175 => ?_) (fun h175 => ?_)
  · refine J_aload_n (pc := 191) dX4_takeItem_191 rfl ?_
    refine J_dup (pc := 192) dX4_takeItem_192 rfl ?_
    refine J_getI (pc := 193) fF_X4_105 rfl rfl dX4_takeItem_193 ?_
    refine J_iconst (pc := 196) (v := 1) dX4_takeItem_196 (by decide) ?_
    refine J_iaddW (pc := 197) ((μ.1 0 10).toInt) 1 rfl rfl dX4_takeItem_197 (by omega) (fun z197 e197 => ?_)
    refine J_putIW (pc := 198) fF_X4_105 rfl rfl dX4_takeItem_198 (fun μ198 m198 => ?_)
    refine J_vret (pc := 201) dX4_takeItem_201 rfl ?_
    exact ⟨rfl, by rw [m198, jI_i, if_neg (by decide)]; exact hφ, by rw [m198]; exact frR_N (frN_0 (frN_rf μ) (by decide))⟩
  · exfalso; omega
set_option maxRecDepth 100000 in
set_option maxHeartbeats 4000000 in
theorem l_tailS {μ : JM} {L e : Nat} {T : Nat → Int} {f' : Nat → Int32} (hT : TM L T μ) (hφ : (μ.1 0 12).toInt = -1) (hn : (μ.1 0 10).toInt = (e : Int)) (he : e ≤ L) (hrow : μ.1 1 = f') : J G shM mX4_takeItem 171 [some (.ref 0), none, none, none, none] [] μ (fun v μ' => v = none ∧ (((SK L T e < L ∧ T (SK L T e) = 59) ∧ (μ'.1 0 12).toInt = -1 ∧ (μ'.1 0 10).toInt = (SK L T e : Int) + 1 ∧ μ'.1 1 = f') ∨ (¬ (SK L T e < L ∧ T (SK L T e) = 59) ∧ (μ'.1 0 12).toInt = (SK L T e : Nat))) ∧ frR μ μ') := by
  refine J_aload_n (pc := 171) dX4_takeItem_171 rfl ?_
  refine J_getI (pc := 172) fF_X4_111 rfl rfl dX4_takeItem_172 ?_
  refine J_if_geW (pc := 175) (-1) hφ 191 dX4_takeItem_175 (by decide) (fun h175 => ?_) (fun h175 => ?_)
  · exfalso; omega
  · refine J_aload_n (pc := 178) dX4_takeItem_178 rfl ?_
    refine J_callVq (pc := 179) fC_X4_117 rfl dX4_takeItem_179 (c_X4_here hT hn he) rfl ⟨Nat.le_of_ble_eq_true rfl, Nat.le_of_ble_eq_true rfl⟩ rfl (Nat.le_of_ble_eq_true rfl) (fun v179 μ179 q179 => ?_)
    obtain ⟨⟨z179, rfl, e179⟩, g10, g11, hH⟩ := q179
    have hsk := SK_r (T := T) he hT.2.1
    have hL150 := hT.2.1
    refine J_bipush (pc := 182) (v := 59) dX4_takeItem_182 (by decide) ?_
    refine J_icmp_eqW (pc := 184) (byt L T (SK L T e)) 59 e179 rfl 191 dX4_takeItem_184 (by decide) (fun h184 => ?_) (fun h184 => ?_)
    · refine J_aload_n (pc := 191) dX4_takeItem_191 rfl ?_
      refine J_dup (pc := 192) dX4_takeItem_192 rfl ?_
      refine J_getI (pc := 193) fF_X4_105 rfl rfl dX4_takeItem_193 ?_
      refine J_iconst (pc := 196) (v := 1) dX4_takeItem_196 (by decide) ?_
      refine J_iaddW (pc := 197) (SK L T e : Int) 1 g10 rfl dX4_takeItem_197 (by omega) (fun z197 e197 => ?_)
      refine J_putIW (pc := 198) fF_X4_105 rfl rfl dX4_takeItem_198 (fun μ198 m198 => ?_)
      refine J_vret (pc := 201) dX4_takeItem_201 rfl ?_
      first
        | (refine ⟨rfl, Or.inl ⟨?_, by rw [m198, jI_i, if_neg (by decide), hH.1 12 (by decide) (by decide)]; exact hφ, by rw [m198, jI_i, if_pos ⟨rfl, rfl⟩]; omega, by rw [m198, jI_ne (by decide), hH.2.1 1 (by decide)]; exact hrow⟩, by rw [m198]; exact frR_N (frN_0 (frN_H hH) (by decide))⟩; unfold byt at h184; by_cases h : SK L T e < L; rw [if_pos h] at h184; exact ⟨h, h184⟩; rw [if_neg h] at h184; omega)
        | (refine ⟨rfl, Or.inr ⟨fun hh => h184 (by unfold byt; rw [if_pos hh.1]; exact hh.2), by rw [m198, jI_i, if_neg (by decide), m188, jI_i, if_pos ⟨rfl, rfl⟩]; exact g11⟩, by rw [m198, m188]; exact frR_N (frN_0 (frN_0 (frN_H hH) (by decide)) (by decide))⟩)
    · refine J_aload_n (pc := 187) dX4_takeItem_187 rfl ?_
      refine J_callVv (pc := 188) fC_X4_125 rfl dX4_takeItem_188 (c_X4_wrong (by rw [hH.1 12 (by decide) (by decide), hφ]; decide)) rfl ⟨Nat.le_of_ble_eq_true rfl, Nat.le_of_ble_eq_true rfl⟩ rfl (Nat.le_of_ble_eq_true rfl) (fun μ188 m188 => ?_)
      refine J_aload_n (pc := 191) dX4_takeItem_191 rfl ?_
      refine J_dup (pc := 192) dX4_takeItem_192 rfl ?_
      refine J_getI (pc := 193) fF_X4_105 rfl rfl dX4_takeItem_193 ?_
      refine J_iconst (pc := 196) (v := 1) dX4_takeItem_196 (by decide) ?_
      refine J_iaddW (pc := 197) (SK L T e : Int) 1 (by rw [m188, jI_i, if_neg (by decide)]; exact g10) rfl dX4_takeItem_197 (by omega) (fun z197 e197 => ?_)
      refine J_putIW (pc := 198) fF_X4_105 rfl rfl dX4_takeItem_198 (fun μ198 m198 => ?_)
      refine J_vret (pc := 201) dX4_takeItem_201 rfl ?_
      first
        | (refine ⟨rfl, Or.inl ⟨?_, by rw [m198, jI_i, if_neg (by decide), hH.1 12 (by decide) (by decide)]; exact hφ, by rw [m198, jI_i, if_pos ⟨rfl, rfl⟩]; omega, by rw [m198, jI_ne (by decide), hH.2.1 1 (by decide)]; exact hrow⟩, by rw [m198]; exact frR_N (frN_0 (frN_H hH) (by decide))⟩; unfold byt at h184; by_cases h : SK L T e < L; rw [if_pos h] at h184; exact ⟨h, h184⟩; rw [if_neg h] at h184; omega)
        | (refine ⟨rfl, Or.inr ⟨fun hh => h184 (by unfold byt; rw [if_pos hh.1]; exact hh.2), by rw [m198, jI_i, if_neg (by decide), m188, jI_i, if_pos ⟨rfl, rfl⟩]; exact g11⟩, by rw [m198, m188]; exact frR_N (frN_0 (frN_0 (frN_H hH) (by decide)) (by decide))⟩)
theorem item_jar {L : Nat} {T : Nat → Int} {s : Nat} {α : Type} {a1 a2 a3 a4 b : α} (hs : s ≤ L) (hL : L ≤ 150) (h : wZ L T s = 7335) : cif (SPL L T s 1) a1 (cif (SPL L T s 2) a2 (cif (SPL L T s 3) a3 (cif (SPL L T s 4) a4 b))) = b := by
  rw [cif_neg (fun hh => by have := (spl_1 hs hL).2 hh; omega), cif_neg (fun hh => by have := (spl_2 hs hL).2 hh; omega), cif_neg (fun hh => by have := (spl_3 hs hL).2 hh; omega), cif_neg (fun hh => by have := (spl_4 hs hL).2 hh; omega)]
set_option maxRecDepth 100000 in
set_option maxHeartbeats 4000000 in
theorem c_X4_takeItem {c : JM} {L : Nat} {T : Nat → Int} (hT : TM L T c) {s n : Nat} (hn : (c.1 0 10).toInt = (s : Int)) (hsL : s ≤ L) (hsk : SK L T s = s) (hφ : (c.1 0 12).toInt = -1) {f : Nat → Int32} (hrow : c.1 1 = f) (hN : n < 1000) (hw : wfF (n : Int) f) (hc : constM c) (hf0 : n = 0 → ∃ g, f = freR 0 g) {nv : Int32} (hnv : nv.toInt = (n : Int)) : Con G shM mX4_takeItem [.ref 0, .int nv] c (tQ (itemP L T n s f) L T c) := by
  refine Con_of [some (.ref 0), some (.int nv), none, none, none] (by decide +kernel) (Nat.le_of_ble_eq_true rfl) (fun _ h => h) ?_
  refine J_aload_n (pc := 0) dX4_takeItem_0 rfl ?_
  refine J_callVq (pc := 1) fC_X4_146 rfl dX4_takeItem_1 (c_X4_takeWord hT hn hsL hsk) rfl ⟨Nat.le_of_ble_eq_true rfl, Nat.le_of_ble_eq_true rfl⟩ rfl (Nat.le_of_ble_eq_true rfl) (fun v1 μ1 q1 => ?_)
  obtain ⟨⟨z1, rfl, e1⟩, g10, g11, g12, hfr1⟩ := q1
  have hL150 := hT.2.1
  have hl := LN_r (T := T) hsL hT.2.1
  have hT1 := TM_N hT hfr1
  have h12 : (μ1.1 0 12).toInt = -1 := by rw [g12]; exact hφ
  have hc1 : constM μ1 := ⟨fun j hj => by rw [hfr1.1 2 (by decide)]; exact hc.1 j hj, fun j hj => by rw [hfr1.1 3 (by decide)]; exact hc.2 j hj⟩
  refine J_istore_n (pc := 4) (lv' := [some (.ref 0), some (.int nv), some (.int z1), none, none]) dX4_takeItem_4 (Nat.le_of_ble_eq_true rfl) rfl rfl ?_
  refine J_bipush (pc := 5) (v := 106) dX4_takeItem_5 (by decide) ?_
  refine J_bipush (pc := 7) (v := 97) dX4_takeItem_7 (by decide) ?_
  refine J_bipush (pc := 9) (v := 114) dX4_takeItem_9 (by decide) ?_
  refine J_iconst (pc := 11) (v := 0) dX4_takeItem_11 (by decide) ?_
  refine J_iconst (pc := 12) (v := 0) dX4_takeItem_12 (by decide) ?_
  refine J_callSz (pc := 13) fC_X4_149 dX4_takeItem_13 (c_X4_wordOf0) rfl ⟨Nat.le_of_ble_eq_true rfl, Nat.le_of_ble_eq_true rfl⟩ rfl (Nat.le_of_ble_eq_true rfl) (fun z13 e13 => ?_)
  refine J_istore_n (pc := 16) (lv' := [some (.ref 0), some (.int nv), some (.int z1), some (.int z13), none]) dX4_takeItem_16 (Nat.le_of_ble_eq_true rfl) rfl rfl ?_
  refine J_iload_n (pc := 17) dX4_takeItem_17 rfl ?_
  refine J_if_neW (pc := 18) (n : Int) hnv 29 dX4_takeItem_18 (by decide) (fun h18 => ?_) (fun h18 => ?_)
  · refine J_iload_n (pc := 29) dX4_takeItem_29 rfl ?_
    refine J_iload_n (pc := 30) dX4_takeItem_30 rfl ?_
    refine J_icmp_neW (pc := 31) (wZ L T s) 7335 e1 e13 41 dX4_takeItem_31 (by decide) (fun h31 => ?_) (fun h31 => ?_)
    · have hn0 : ¬ n = 0 := by omega
      refine J_iload_n (pc := 41) dX4_takeItem_41 rfl ?_
      refine J_iload_n (pc := 42) dX4_takeItem_42 rfl ?_
      refine J_icmp_neW (pc := 43) (wZ L T s) 7335 e1 e13 76 dX4_takeItem_43 (by decide) (fun h43 => ?_) (fun h43 => ?_)
      · refine J_iload_n (pc := 76) dX4_takeItem_76 rfl ?_
        refine J_bipush (pc := 77) (v := 109) dX4_takeItem_77 (by decide) ?_
        refine J_bipush (pc := 79) (v := 111) dX4_takeItem_79 (by decide) ?_
        refine J_bipush (pc := 81) (v := 111) dX4_takeItem_81 (by decide) ?_
        refine J_bipush (pc := 83) (v := 100) dX4_takeItem_83 (by decide) ?_
        refine J_iconst (pc := 85) (v := 0) dX4_takeItem_85 (by decide) ?_
        refine J_callSz (pc := 86) fC_X4_149 dX4_takeItem_86 (c_X4_wordOf1) rfl ⟨Nat.le_of_ble_eq_true rfl, Nat.le_of_ble_eq_true rfl⟩ rfl (Nat.le_of_ble_eq_true rfl) (fun z86 e86 => ?_)
        refine J_icmp_neW (pc := 89) (wZ L T s) 267223 e1 e86 99 dX4_takeItem_89 (by decide) (fun h89 => ?_) (fun h89 => ?_)
        · refine J_iload_n (pc := 99) dX4_takeItem_99 rfl ?_
          refine J_bipush (pc := 100) (v := 98) dX4_takeItem_100 (by decide) ?_
          refine J_bipush (pc := 102) (v := 111) dX4_takeItem_102 (by decide) ?_
          refine J_bipush (pc := 104) (v := 117) dX4_takeItem_104 (by decide) ?_
          refine J_bipush (pc := 106) (v := 110) dX4_takeItem_106 (by decide) ?_
          refine J_bipush (pc := 108) (v := 100) dX4_takeItem_108 (by decide) ?_
          refine J_callSz (pc := 110) fC_X4_149 dX4_takeItem_110 (c_X4_wordOf2) rfl ⟨Nat.le_of_ble_eq_true rfl, Nat.le_of_ble_eq_true rfl⟩ rfl (Nat.le_of_ble_eq_true rfl) (fun z110 e110 => ?_)
          refine J_icmp_neW (pc := 113) (wZ L T s) 1373818 e1 e110 123 dX4_takeItem_113 (by decide) (fun h113 => ?_) (fun h113 => ?_)
          · refine J_iload_n (pc := 123) dX4_takeItem_123 rfl ?_
            refine J_bipush (pc := 124) (v := 118) dX4_takeItem_124 (by decide) ?_
            refine J_bipush (pc := 126) (v := 111) dX4_takeItem_126 (by decide) ?_
            refine J_bipush (pc := 128) (v := 119) dX4_takeItem_128 (by decide) ?_
            refine J_iconst (pc := 130) (v := 0) dX4_takeItem_130 (by decide) ?_
            refine J_iconst (pc := 131) (v := 0) dX4_takeItem_131 (by decide) ?_
            refine J_callSz (pc := 132) fC_X4_149 dX4_takeItem_132 (c_X4_wordOf3) rfl ⟨Nat.le_of_ble_eq_true rfl, Nat.le_of_ble_eq_true rfl⟩ rfl (Nat.le_of_ble_eq_true rfl) (fun z132 e132 => ?_)
            refine J_icmp_neW (pc := 135) (wZ L T s) 16466 e1 e132 145 dX4_takeItem_135 (by decide) (fun h135 => ?_) (fun h135 => ?_)
            · refine J_iload_n (pc := 145) dX4_takeItem_145 rfl ?_
              refine J_bipush (pc := 146) (v := 115) dX4_takeItem_146 (by decide) ?_
              refine J_bipush (pc := 148) (v := 97) dX4_takeItem_148 (by decide) ?_
              refine J_bipush (pc := 150) (v := 121) dX4_takeItem_150 (by decide) ?_
              refine J_iconst (pc := 152) (v := 0) dX4_takeItem_152 (by decide) ?_
              refine J_iconst (pc := 153) (v := 0) dX4_takeItem_153 (by decide) ?_
              refine J_callSz (pc := 154) fC_X4_149 dX4_takeItem_154 (c_X4_wordOf4) rfl ⟨Nat.le_of_ble_eq_true rfl, Nat.le_of_ble_eq_true rfl⟩ rfl (Nat.le_of_ble_eq_true rfl) (fun z154 e154 => ?_)
              refine J_icmp_neW (pc := 157) (wZ L T s) 13903 e1 e154 167 dX4_takeItem_157 (by decide) (fun h157 => ?_) (fun h157 => ?_)
              · have hit : itemP L T n s f = .inl s := (cif_neg hn0).trans (((cif_neg (fun hh => h89 ((spl_1 hsL hT.2.1).2 hh))).trans ((cif_neg (fun hh => h113 ((spl_2 hsL hT.2.1).2 hh))).trans ((cif_neg (fun hh => h135 ((spl_3 hsL hT.2.1).2 hh))).trans (cif_neg (fun hh => h157 ((spl_4 hsL hT.2.1).2 hh)))))))
                refine J_aload_n (pc := 167) dX4_takeItem_167 rfl ?_
                refine J_callVv (pc := 168) fC_X4_125 rfl dX4_takeItem_168 (c_X4_wrong (by rw [h12]; decide)) rfl ⟨Nat.le_of_ble_eq_true rfl, Nat.le_of_ble_eq_true rfl⟩ rfl (Nat.le_of_ble_eq_true rfl) (fun μ168 m168 => ?_)
                exact J_mono (J_lv' (lv' := [some (.ref 0), none, none, none, none]) (by repeat' constructor) (l_tailF (by rw [m168, jI_i, if_pos ⟨rfl, rfl⟩]; exact g11) (by rw [m168, jI_i, if_neg (by decide), g10]; omega))) (fun v μ' hh => tQ_F (hit) (by rw [m168]; exact frR_N (frN_0 hfr1 (by decide))) hh)
              · refine J_aload_n (pc := 160) dX4_takeItem_160 rfl ?_
                refine J_callVq (pc := 161) fC_X4_162 rfl dX4_takeItem_161 (c_X4_takeSay hT1 g10 hl.2.1 h12 (N := (n : Int)) (by omega) (by rw [hfr1.1 1 (by decide)]; exact hrow) hw hc1) rfl ⟨Nat.le_of_ble_eq_true rfl, Nat.le_of_ble_eq_true rfl⟩ rfl (Nat.le_of_ble_eq_true rfl) (fun v161 μ161 q161 => ?_)
                have hit : itemP L T n s f = sayP L T (LN L T s) f := (cif_neg hn0).trans (((cif_neg (fun hh => h89 ((spl_1 hsL hT.2.1).2 hh))).trans ((cif_neg (fun hh => h113 ((spl_2 hsL hT.2.1).2 hh))).trans ((cif_neg (fun hh => h135 ((spl_3 hsL hT.2.1).2 hh))).trans (cif_pos ((spl_4 hsL hT.2.1).1 h157))))))
                obtain ⟨rfl, ⟨q, e1, e2, e3⟩ | ⟨e, f', e1, e2, e3, e4, e5⟩, e6⟩ := q161
                · refine J_goto (pc := 164) 171 dX4_takeItem_164 (by decide) ?_
                  exact J_mono (J_lv' (lv' := [some (.ref 0), none, none, none, none]) (by repeat' constructor) (l_tailF e2 e3)) (fun v μ' hh => tQ_F (hit.trans e1) (frR_tr (frR_N hfr1) e6) hh)
                · refine J_goto (pc := 164) 171 dX4_takeItem_164 (by decide) ?_
                  exact J_mono (J_lv' (lv' := [some (.ref 0), none, none, none, none]) (by repeat' constructor) (l_tailS (TM_R hT1 e6) e2 e3 e4 e5)) (fun v μ' hh => tQ_S (hit.trans e1) e4 (frR_tr (frR_N hfr1) e6) hh)
            · refine J_aload_n (pc := 138) dX4_takeItem_138 rfl ?_
              refine J_callVq (pc := 139) fC_X4_159 rfl dX4_takeItem_139 (c_X4_takeVow hT1 g10 hl.2.1 h12 (by rw [hfr1.1 1 (by decide)]; exact hrow) hw) rfl ⟨Nat.le_of_ble_eq_true rfl, Nat.le_of_ble_eq_true rfl⟩ rfl (Nat.le_of_ble_eq_true rfl) (fun v139 μ139 q139 => ?_)
              have hit : itemP L T n s f = vowP L T (LN L T s) f := (cif_neg hn0).trans (((cif_neg (fun hh => h89 ((spl_1 hsL hT.2.1).2 hh))).trans ((cif_neg (fun hh => h113 ((spl_2 hsL hT.2.1).2 hh))).trans (cif_pos ((spl_3 hsL hT.2.1).1 h135)))))
              obtain ⟨rfl, ⟨q, e1, e2, e3⟩ | ⟨e, f', e1, e2, e3, e4, e5⟩, e6⟩ := q139
              · refine J_goto (pc := 142) 171 dX4_takeItem_142 (by decide) ?_
                exact J_mono (J_lv' (lv' := [some (.ref 0), none, none, none, none]) (by repeat' constructor) (l_tailF e2 e3)) (fun v μ' hh => tQ_F (hit.trans e1) (frR_tr (frR_N hfr1) e6) hh)
              · refine J_goto (pc := 142) 171 dX4_takeItem_142 (by decide) ?_
                exact J_mono (J_lv' (lv' := [some (.ref 0), none, none, none, none]) (by repeat' constructor) (l_tailS (TM_R hT1 e6) e2 e3 e4 e5)) (fun v μ' hh => tQ_S (hit.trans e1) e4 (frR_tr (frR_N hfr1) e6) hh)
          · refine J_aload_n (pc := 116) dX4_takeItem_116 rfl ?_
            refine J_callVq (pc := 117) fC_X4_156 rfl dX4_takeItem_117 (c_X4_takeBound hT1 g10 hl.2.1 h12 (by rw [hfr1.1 1 (by decide)]; exact hrow) hw) rfl ⟨Nat.le_of_ble_eq_true rfl, Nat.le_of_ble_eq_true rfl⟩ rfl (Nat.le_of_ble_eq_true rfl) (fun v117 μ117 q117 => ?_)
            have hit : itemP L T n s f = boundP L T (LN L T s) f := (cif_neg hn0).trans (((cif_neg (fun hh => h89 ((spl_1 hsL hT.2.1).2 hh))).trans (cif_pos ((spl_2 hsL hT.2.1).1 h113))))
            obtain ⟨rfl, ⟨q, e1, e2, e3⟩ | ⟨e, f', e1, e2, e3, e4, e5⟩, e6⟩ := q117
            · refine J_goto (pc := 120) 171 dX4_takeItem_120 (by decide) ?_
              exact J_mono (J_lv' (lv' := [some (.ref 0), none, none, none, none]) (by repeat' constructor) (l_tailF e2 e3)) (fun v μ' hh => tQ_F (hit.trans e1) (frR_tr (frR_N hfr1) e6) hh)
            · refine J_goto (pc := 120) 171 dX4_takeItem_120 (by decide) ?_
              exact J_mono (J_lv' (lv' := [some (.ref 0), none, none, none, none]) (by repeat' constructor) (l_tailS (TM_R hT1 e6) e2 e3 e4 e5)) (fun v μ' hh => tQ_S (hit.trans e1) e4 (frR_tr (frR_N hfr1) e6) hh)
        · refine J_aload_n (pc := 92) dX4_takeItem_92 rfl ?_
          refine J_callVq (pc := 93) fC_X4_153 rfl dX4_takeItem_93 (c_X4_takeMood hT1 g10 hl.2.1 h12 (by rw [hfr1.1 1 (by decide)]; exact hrow) hw) rfl ⟨Nat.le_of_ble_eq_true rfl, Nat.le_of_ble_eq_true rfl⟩ rfl (Nat.le_of_ble_eq_true rfl) (fun v93 μ93 q93 => ?_)
          have hit : itemP L T n s f = moodP L T (LN L T s) f := (cif_neg hn0).trans ((cif_pos ((spl_1 hsL hT.2.1).1 h89)))
          obtain ⟨rfl, ⟨q, e1, e2, e3⟩ | ⟨e, f', e1, e2, e3, e4, e5⟩, e6⟩ := q93
          · refine J_goto (pc := 96) 171 dX4_takeItem_96 (by decide) ?_
            exact J_mono (J_lv' (lv' := [some (.ref 0), none, none, none, none]) (by repeat' constructor) (l_tailF e2 e3)) (fun v μ' hh => tQ_F (hit.trans e1) (frR_tr (frR_N hfr1) e6) hh)
          · refine J_goto (pc := 96) 171 dX4_takeItem_96 (by decide) ?_
            exact J_mono (J_lv' (lv' := [some (.ref 0), none, none, none, none]) (by repeat' constructor) (l_tailS (TM_R hT1 e6) e2 e3 e4 e5)) (fun v μ' hh => tQ_S (hit.trans e1) e4 (frR_tr (frR_N hfr1) e6) hh)
      · exfalso; omega
    · have hit : itemP L T n s f = .inl s := (cif_neg (by omega)).trans (item_jar hsL hT.2.1 (by omega))
      refine J_aload_n (pc := 34) dX4_takeItem_34 rfl ?_
      refine J_callVv (pc := 35) fC_X4_125 rfl dX4_takeItem_35 (c_X4_wrong (by rw [h12]; decide)) rfl ⟨Nat.le_of_ble_eq_true rfl, Nat.le_of_ble_eq_true rfl⟩ rfl (Nat.le_of_ble_eq_true rfl) (fun μ35 m35 => ?_)
      refine J_goto (pc := 38) 171 dX4_takeItem_38 (by decide) ?_
      exact J_mono (J_lv' (lv' := [some (.ref 0), none, none, none, none]) (by repeat' constructor) (l_tailF (by rw [m35, jI_i, if_pos ⟨rfl, rfl⟩]; exact g11) (by rw [m35, jI_i, if_neg (by decide), g10]; omega))) (fun v μ' hh => tQ_F (hit) (by rw [m35]; exact frR_N (frN_0 hfr1 (by decide))) hh)
  · refine J_iload_n (pc := 21) dX4_takeItem_21 rfl ?_
    refine J_iload_n (pc := 22) dX4_takeItem_22 rfl ?_
    refine J_icmp_eqW (pc := 23) (wZ L T s) 7335 e1 e13 41 dX4_takeItem_23 (by decide) (fun h23 => ?_) (fun h23 => ?_)
    · have hS : SPL L T s 0 := (spl_0 hsL hT.2.1).1 (by omega)
      have hit0 : itemP L T n s f = jarP L T (LN L T s) f := (cif_pos (by omega)).trans (cif_pos hS)
      refine J_iload_n (pc := 41) dX4_takeItem_41 rfl ?_
      refine J_iload_n (pc := 42) dX4_takeItem_42 rfl ?_
      refine J_icmp_neW (pc := 43) (wZ L T s) 7335 e1 e13 76 dX4_takeItem_43 (by decide) (fun h43 => ?_) (fun h43 => ?_)
      · exfalso; omega
      · refine J_aload_n (pc := 46) dX4_takeItem_46 rfl ?_
        refine J_iconst (pc := 47) (v := 0) dX4_takeItem_47 (by decide) ?_
        refine J_iconst (pc := 48) (v := 5) dX4_takeItem_48 (by decide) ?_
        refine J_callVq (pc := 49) fC_X4_132 rfl dX4_takeItem_49 (c_X4_takeNumber hT1 g10 hl.2.1 h12 (lo := 0) (hi := 5) rfl rfl (by decide) (by decide)) rfl ⟨Nat.le_of_ble_eq_true rfl, Nat.le_of_ble_eq_true rfl⟩ rfl (Nat.le_of_ble_eq_true rfl) (fun v49 μ49 q49 => ?_)
        obtain ⟨q49, hfr49⟩ := q49
        rcases q49 with ⟨hok49, ⟨z49, rfl, hz49⟩, hat49, hph49⟩ | ⟨hbad49, ⟨z49, rfl⟩, hph49, hat49⟩
        · refine J_istore (pc := 52) (lv' := [some (.ref 0), some (.int nv), some (.int z1), some (.int z13), some (.int z49)]) dX4_takeItem_52 (Nat.le_of_ble_eq_true rfl) rfl rfl ?_
          refine J_aload_n (pc := 54) dX4_takeItem_54 rfl ?_
          refine J_getR (pc := 55) 1 fF_X4_7 rfl rfl dX4_takeItem_55 ?_
          refine J_iconst (pc := 58) (v := 0) dX4_takeItem_58 (by decide) ?_
          refine J_aload_n (pc := 59) dX4_takeItem_59 rfl ?_
          refine J_getI (pc := 60) fF_X4_111 rfl rfl dX4_takeItem_60 ?_
          refine J_if_geW (pc := 63) (-1) hph49 71 dX4_takeItem_63 (by decide) (fun h63 => ?_) (fun h63 => ?_)
          · exfalso; omega
          · refine J_iload (pc := 66) dX4_takeItem_66 rfl ?_
            refine J_goto (pc := 68) 72 dX4_takeItem_68 (by decide) ?_
            refine J_iastW (pc := 72) 0 (rfl) rfl (by decide) dX4_takeItem_72 (fun μ72 m72 => ?_)
            refine J_goto (pc := 73) 171 dX4_takeItem_73 (by decide) ?_
            obtain ⟨g, hg⟩ := hf0 (by omega)
            have hk5 := hok49.2
            have he3 := FS_le (T := T) hl.2.1 hT.2.1
            have hrw : μ72.1 1 = freR (iZ (nvT T (SK L T (LN L T s)) (FN L T (SK L T (LN L T s))))) f := by
              rw [m72, jI_upd, hfr49.1 1 (by decide), hfr1.1 1 (by decide), hrow, iZ_of hz49]
              subst hg
              funext j
              unfold upd freR freF
              by_cases h0 : j = 0
              · subst h0; rfl
              · rw [if_neg h0]
                by_cases h73 : j < 73
                · rw [if_pos h73, if_pos h73, if_neg h0, if_neg h0]
                · rw [if_neg h73, if_neg h73]
            exact J_mono (J_lv' (lv' := [some (.ref 0), none, none, none, none]) (by repeat' constructor) (l_tailS (TM_R hT (by rw [m72]; exact frR_1 (frR_N (frN_tr hfr1 hfr49)))) (by rw [m72, jI_ne (by decide)]; exact hph49) (by rw [m72, jI_ne (by decide)]; exact hat49) he3 hrw)) (fun v μ' hh => tQ_S (hit0.trans (pn_ok hok49)) he3 (by rw [m72]; exact frR_1 (frR_N (frN_tr hfr1 hfr49))) hh)
        · refine J_istore (pc := 52) (lv' := [some (.ref 0), some (.int nv), some (.int z1), some (.int z13), some (.int z49)]) dX4_takeItem_52 (Nat.le_of_ble_eq_true rfl) rfl rfl ?_
          refine J_aload_n (pc := 54) dX4_takeItem_54 rfl ?_
          refine J_getR (pc := 55) 1 fF_X4_7 rfl rfl dX4_takeItem_55 ?_
          refine J_iconst (pc := 58) (v := 0) dX4_takeItem_58 (by decide) ?_
          refine J_aload_n (pc := 59) dX4_takeItem_59 rfl ?_
          refine J_getI (pc := 60) fF_X4_111 rfl rfl dX4_takeItem_60 ?_
          refine J_if_geW (pc := 63) (SK L T (LN L T s) : Int) hph49 71 dX4_takeItem_63 (by decide) (fun h63 => ?_) (fun h63 => ?_)
          · refine J_iconst (pc := 71) (v := 0) dX4_takeItem_71 (by decide) ?_
            refine J_iastW (pc := 72) 0 (rfl) rfl (by decide) dX4_takeItem_72 (fun μ72 m72 => ?_)
            refine J_goto (pc := 73) 171 dX4_takeItem_73 (by decide) ?_
            exact J_mono (J_lv' (lv' := [some (.ref 0), none, none, none, none]) (by repeat' constructor) (l_tailF (by rw [m72, jI_ne (by decide)]; exact hph49) (by rw [m72, jI_ne (by decide)]; exact hat49))) (fun v μ' hh => tQ_F (hit0.trans (pn_no hbad49)) (by rw [m72]; exact frR_1 (frR_N (frN_tr hfr1 hfr49))) hh)
          · exfalso; omega
    · refine J_goto (pc := 26) 34 dX4_takeItem_26 (by decide) ?_
      have hit : itemP L T n s f = .inl s := (cif_pos (by omega)).trans (cif_neg (fun hh => by have := (spl_0 hsL hT.2.1).2 hh; omega))
      refine J_aload_n (pc := 34) dX4_takeItem_34 rfl ?_
      refine J_callVv (pc := 35) fC_X4_125 rfl dX4_takeItem_35 (c_X4_wrong (by rw [h12]; decide)) rfl ⟨Nat.le_of_ble_eq_true rfl, Nat.le_of_ble_eq_true rfl⟩ rfl (Nat.le_of_ble_eq_true rfl) (fun μ35 m35 => ?_)
      refine J_goto (pc := 38) 171 dX4_takeItem_38 (by decide) ?_
      exact J_mono (J_lv' (lv' := [some (.ref 0), none, none, none, none]) (by repeat' constructor) (l_tailF (by rw [m35, jI_i, if_pos ⟨rfl, rfl⟩]; exact g11) (by rw [m35, jI_i, if_neg (by decide), g10]; omega))) (fun v μ' hh => tQ_F (hit) (by rw [m35]; exact frR_N (frN_0 hfr1 (by decide))) hh)
theorem wfF_vow {f : Nat → Int32} {N : Int} {q : Nat} {v : Int} (hw : wfF N f) (hq : q < 8) (hv : 0 ≤ v ∧ v ≤ 4) : wfF N (upd f (7 + q) (iZ v)) := by
  have iv := iZ_i (x := v) (by omega)
  have w8 := hw.2.2.2.2.2.2.2.2.1
  have w9 := hw.2.2.2.2.2.2.2.2.2.1
  have u : ∀ j, j ≠ 7 + q → upd f (7 + q) (iZ v) j = f j := fun j h => by simp [upd, h]
  obtain ⟨h0, h1, h2, h3, h4, h5, h6, h7, h8, h9, ha, hb⟩ := hw
  unfold wfF
  rw [u 0 (by omega), u 1 (by omega), u 2 (by omega), u 3 (by omega), u 4 (by omega), u 5 (by omega), u 6 (by omega), u 15 (by omega), u 40 (by omega)]
  refine ⟨h0, h1, h2, h3, h4, h5, h6, fun j hj => ?_, h8, h9, fun j hj => ?_, fun j hj => ?_⟩
  · by_cases e : j = q
    · rw [e, show upd f (7 + q) (iZ v) (7 + q) = iZ v by simp [upd], iv]; exact hv
    · rw [u _ (by omega)]; exact h7 j hj
  · rw [u _ (by omega), u _ (by omega)]; exact ha j hj
  · rw [u _ (by omega), u _ (by omega), u _ (by omega), u _ (by omega)]; exact hb j hj
theorem item_wf {L : Nat} {T : Nat → Int} {n s e : Nat} {f f' : Nat → Int32} (hw : wfF (n : Int) f) (hn : n < 1000) (h : itemP L T n s f = .inr (e, f')) : wfF ((n + 1 : Nat) : Int) f' := by
  have hm : (n : Int) ≤ ((n + 1 : Nat) : Int) := by omega
  have hw2 := hw
  obtain ⟨w0, w1, w2, w3, w4, w5, w6, -⟩ := hw2
  have hlow : ∀ g : Nat → Int32, (∀ j, 7 ≤ j → g j = f j) → g 0 = f 0 → (0 ≤ (g 1).toInt ∧ (g 1).toInt ≤ 99) → (0 ≤ (g 2).toInt ∧ (g 2).toInt ≤ 99) → (1 ≤ (g 3).toInt ∧ (g 3).toInt ≤ 99) → (1 ≤ (g 4).toInt ∧ (g 4).toInt ≤ 99) → g 5 = f 5 → g 6 = f 6 → wfF (n : Int) g := fun g h7 h0 h1 h2 h3 h4 h5 h6 => wfF_low hw h7 (by rw [h0]; exact w0) h1 h2 h3 h4 (by rw [h5]; exact w5) (by rw [h6]; exact w6)
  have two : ∀ (a b : Nat) (x y : Int), a < b → b < 7 → (upd (upd f a (iZ x)) b (iZ y) a = iZ x) ∧ (upd (upd f a (iZ x)) b (iZ y) b = iZ y) ∧ ∀ j, j ≠ a → j ≠ b → upd (upd f a (iZ x)) b (iZ y) j = f j := fun a b x y h1 h2 => ⟨by simp [upd, show a ≠ b by omega], by simp [upd], fun j g1 g2 => by simp [upd, g1, g2]⟩
  unfold itemP at h
  by_cases h0 : n = 0
  · rw [cif_pos h0] at h
    by_cases h1 : SPL L T s 0
    · rw [cif_pos h1] at h
      obtain ⟨p1, p2⟩ := pn_inr h
      cases p2
      have := p1.2
      exact wfF_fresh (by omega) (by rw [iZ_i (by omega)]; omega)
    · rw [cif_neg h1] at h; cases h
  · rw [cif_neg h0] at h
    by_cases h1 : SPL L T s 1
    · rw [cif_pos h1] at h
      obtain ⟨p1, p2⟩ := pn_inr h
      obtain ⟨p3, p4⟩ := pn_inr p2
      cases p4
      have q1 := p1.2
      have q3 := p3.2
      obtain ⟨u1, u2, u⟩ := two 1 2 _ _ (by decide) (by decide)
      refine wfF_mono hm (hlow _ (fun j hj => u j (by omega) (by omega)) (u 0 (by decide) (by decide)) ?_ ?_ ?_ ?_ (u 5 (by decide) (by decide)) (u 6 (by decide) (by decide)))
      · rw [u1, iZ_i (by omega)]; omega
      · rw [u2, iZ_i (by omega)]; omega
      · rw [u 3 (by decide) (by decide)]; exact w3
      · rw [u 4 (by decide) (by decide)]; exact w4
    · rw [cif_neg h1] at h
      by_cases h2 : SPL L T s 2
      · rw [cif_pos h2] at h
        obtain ⟨p1, p2⟩ := pn_inr h
        obtain ⟨p3, p4⟩ := pn_inr p2
        cases p4
        have q1 := p1.2
        have q3 := p3.2
        obtain ⟨u1, u2, u⟩ := two 3 4 _ _ (by decide) (by decide)
        refine wfF_mono hm (hlow _ (fun j hj => u j (by omega) (by omega)) (u 0 (by decide) (by decide)) ?_ ?_ ?_ ?_ (u 5 (by decide) (by decide)) (u 6 (by decide) (by decide)))
        · rw [u 1 (by decide) (by decide)]; exact w1
        · rw [u 2 (by decide) (by decide)]; exact w2
        · rw [u1, iZ_i (by omega)]; omega
        · rw [u2, iZ_i (by omega)]; omega
      · rw [cif_neg h2] at h
        by_cases h3 : SPL L T s 3
        · rw [cif_pos h3] at h
          obtain ⟨p1, p2⟩ := pn_inr h
          obtain ⟨p3, p4⟩ := pn_inr p2
          cases p4
          have q1 := p1.2
          have q3 := p3.2
          exact wfF_mono hm (wfF_vow hw (by omega) (by omega))
        · rw [cif_neg h3] at h
          by_cases h4 : SPL L T s 4
          · rw [cif_pos h4] at h
            unfold sayP at h
            by_cases h5 : (f 6).toInt = 0
            · rw [cif_pos h5] at h
              obtain ⟨p1, p2⟩ := pn_inr h
              cases p2
              exact wfF_list hw (by omega)
            · rw [cif_neg h5] at h; cases h
          · rw [cif_neg h4] at h; cases h
set_option maxRecDepth 100000 in
set_option maxHeartbeats 4000000 in
theorem l_read {c : JM} {L : Nat} {T : Nat → Int} {Q : Option Value → JM → Prop} : ∀ d : Nat, ∀ (i n : Nat) (nv : Int32) (μ : JM) (f : Nat → Int32), L < i + d → i ≤ L → n ≤ i → nv.toInt = (n : Int) → (μ.1 0 10).toInt = (i : Int) → (μ.1 0 12).toInt = -1 → TM L T μ → μ.1 1 = f → wfF (n : Int) f → constM μ → (n = 0 → ∃ g, f = freR 0 g) → frR c μ → (∀ (μ' : JM) (nv' : Int32), ((∃ q : Nat, par L T d i n f = .inl q ∧ (μ'.1 0 12).toInt = (q : Int)) ∨ (∃ (k : Nat) (f' : Nat → Int32), par L T d i n f = .inr (k, f') ∧ (μ'.1 0 12).toInt = -1 ∧ nv'.toInt = (k : Int) ∧ μ'.1 1 = f')) → frR c μ' → J G shM mX4_read 72 [some (.ref 0), some (.int nv'), none] [] μ' Q) → J G shM mX4_read 43 [some (.ref 0), some (.int nv), none] [] μ Q := by
  intro d
  induction d with
  | zero =>
    intro i n nv μ f hd hi hni hnv hn hφ hT2 hrow hw hc hf0 hfr hk2
    have hL150 := hT2.2.1
    refine J_aload_n (pc := 43) dX4_read_43 rfl ?_
    exfalso; omega
  | succ d ih =>
    intro i n nv μ f hd hi hni hnv hn hφ hT2 hrow hw hc hf0 hfr hk2
    have hL150 := hT2.2.1
    refine J_aload_n (pc := 43) dX4_read_43 rfl ?_
    refine J_getI (pc := 44) fF_X4_111 rfl rfl dX4_read_44 ?_
    refine J_if_geW (pc := 47) (-1) hφ 72 dX4_read_47 (by decide) (fun h47 => ?_) (fun h47 => ?_)
    · exfalso; omega
    · refine J_aload_n (pc := 50) dX4_read_50 rfl ?_
      refine J_callVq (pc := 51) fC_X4_117 rfl dX4_read_51 (c_X4_here hT2 hn hi) rfl ⟨Nat.le_of_ble_eq_true rfl, Nat.le_of_ble_eq_true rfl⟩ rfl (Nat.le_of_ble_eq_true rfl) (fun v51 μ51 q51 => ?_)
      obtain ⟨⟨z51, rfl, e51⟩, g10, g11, hH⟩ := q51
      have hsk := SK_r (T := T) hi hT2.2.1
      have hidm : SK L T (SK L T i) = SK L T i := SK_id (fun hh => hsk.2.2 hh.1 hh.2)
      have hN51 := frN_H hH
      have hT51 := TM_N hT2 hN51
      have h12 : (μ51.1 0 12).toInt = -1 := by rw [hH.1 12 (by decide) (by decide)]; exact hφ
      have hR51 := frR_tr hfr (frR_N hN51)
      have hrow51 : μ51.1 1 = f := by rw [hN51.1 1 (by decide)]; exact hrow
      have hc51 : constM μ51 := ⟨fun j hj => by rw [hN51.1 2 (by decide)]; exact hc.1 j hj, fun j hj => by rw [hN51.1 3 (by decide)]; exact hc.2 j hj⟩
      have hbl := fun h : SK L T i < L => (hT2.2.2 (SK L T i) h).2
      refine J_if_geW (pc := 54) (byt L T (SK L T i)) e51 61 dX4_read_54 (by decide) (fun h54 => ?_) (fun h54 => ?_)
      · have hnE : ¬ (SK L T i = L ∧ 0 < n) := by intro hh; unfold byt at *; by_cases hq : SK L T i < L; omega; rw [if_neg hq] at *; omega
        have hn1 : n < 1000 := by omega
        refine J_aload_n (pc := 61) dX4_read_61 rfl ?_
        refine J_iload_n (pc := 62) dX4_read_62 rfl ?_
        refine J_callVq (pc := 63) fC_X4_165 rfl dX4_read_63 (c_X4_takeItem hT51 g10 hsk.2.1 hidm h12 hrow51 hn1 hw hc51 hf0 hnv) rfl ⟨Nat.le_of_ble_eq_true rfl, Nat.le_of_ble_eq_true rfl⟩ rfl (Nat.le_of_ble_eq_true rfl) (fun v63 μ63 q63 => ?_)
        obtain ⟨rfl, hr, hR63⟩ := q63
        have hRR := frR_tr hR51 hR63
        rcases hr with ⟨q, e1, e2⟩ | ⟨e, f', e1, he, ⟨e2, e3, e4, e5⟩ | ⟨e2, e3⟩⟩
        · refine J_iincW' (pc := 66) (n : Int) hnv (lv' := fun iq_ => [some (.ref 0), some (.int iq_), none]) dX4_read_66 rfl (by omega) (by decide) (Nat.le_of_ble_eq_true rfl) rfl (fun _ => rfl) (fun z66 e66 => ?_)
          refine J_goto (pc := 69) 43 dX4_read_69 (by decide) ?_
          refine J_aload_n (pc := 43) dX4_read_43 rfl ?_
          refine J_getI (pc := 44) fF_X4_111 rfl rfl dX4_read_44 ?_
          refine J_if_geW (pc := 47) (q : Int) e2 72 dX4_read_47 (by decide) (fun h47 => ?_) (fun h47 => ?_)
          · exact J_lv' (lv' := [some (.ref 0), some (.int z66), none]) (by repeat' constructor) (hk2 μ63 z66 (Or.inl ⟨_, par_0 hnE e1, e2⟩) hRR)
          · exfalso; omega
        · refine J_iincW' (pc := 66) (n : Int) hnv (lv' := fun iq_ => [some (.ref 0), some (.int iq_), none]) dX4_read_66 rfl (by omega) (by decide) (Nat.le_of_ble_eq_true rfl) rfl (fun _ => rfl) (fun z66 e66 => ?_)
          refine J_goto (pc := 69) 43 dX4_read_69 (by decide) ?_
          have hge := item_ge hsk.2.1 hT2.2.1 e1
          have hse := SK_r (T := T) he hT2.2.1
          rw [par_2 hnE e1 e2] at hk2
          exact ih (SK L T e + 1) (n + 1) z66 μ63 f' (by omega) (by omega) (by omega) (by omega) (by omega) e3 (TM_R hT51 hR63) e5 (item_wf hw hn1 e1) ⟨fun j hj => by rw [hR63.1 2 (by decide) (by decide)]; exact hc51.1 j hj, fun j hj => by rw [hR63.1 3 (by decide) (by decide)]; exact hc51.2 j hj⟩ (fun h0 => absurd h0 (by omega)) hRR hk2
        · refine J_iincW' (pc := 66) (n : Int) hnv (lv' := fun iq_ => [some (.ref 0), some (.int iq_), none]) dX4_read_66 rfl (by omega) (by decide) (Nat.le_of_ble_eq_true rfl) rfl (fun _ => rfl) (fun z66 e66 => ?_)
          refine J_goto (pc := 69) 43 dX4_read_69 (by decide) ?_
          refine J_aload_n (pc := 43) dX4_read_43 rfl ?_
          refine J_getI (pc := 44) fF_X4_111 rfl rfl dX4_read_44 ?_
          refine J_if_geW (pc := 47) (SK L T e : Int) e3 72 dX4_read_47 (by decide) (fun h47 => ?_) (fun h47 => ?_)
          · exact J_lv' (lv' := [some (.ref 0), some (.int z66), none]) (by repeat' constructor) (hk2 μ63 z66 (Or.inl ⟨_, par_1 hnE e1 e2, e3⟩) hRR)
          · exfalso; omega
      · refine J_iload_n (pc := 57) dX4_read_57 rfl ?_
        refine J_if_neW (pc := 58) (n : Int) hnv 72 dX4_read_58 (by decide) (fun h58 => ?_) (fun h58 => ?_)
        · have hsE : SK L T i = L := by unfold byt at *; by_cases hq : SK L T i < L; rw [if_pos hq] at *; have := hbl hq; omega; omega
          exact J_lv' (lv' := [some (.ref 0), some (.int nv), none]) (by repeat' constructor) (hk2 μ51 nv (Or.inr ⟨n, f, cif_pos ⟨hsE, by omega⟩, h12, hnv, hrow51⟩) hR51)
        · have hnE : ¬ (SK L T i = L ∧ 0 < n) := by intro hh; unfold byt at *; by_cases hq : SK L T i < L; omega; rw [if_neg hq] at *; omega
          have hn1 : n < 1000 := by omega
          refine J_aload_n (pc := 61) dX4_read_61 rfl ?_
          refine J_iload_n (pc := 62) dX4_read_62 rfl ?_
          refine J_callVq (pc := 63) fC_X4_165 rfl dX4_read_63 (c_X4_takeItem hT51 g10 hsk.2.1 hidm h12 hrow51 hn1 hw hc51 hf0 hnv) rfl ⟨Nat.le_of_ble_eq_true rfl, Nat.le_of_ble_eq_true rfl⟩ rfl (Nat.le_of_ble_eq_true rfl) (fun v63 μ63 q63 => ?_)
          obtain ⟨rfl, hr, hR63⟩ := q63
          have hRR := frR_tr hR51 hR63
          rcases hr with ⟨q, e1, e2⟩ | ⟨e, f', e1, he, ⟨e2, e3, e4, e5⟩ | ⟨e2, e3⟩⟩
          · refine J_iincW' (pc := 66) (n : Int) hnv (lv' := fun iq_ => [some (.ref 0), some (.int iq_), none]) dX4_read_66 rfl (by omega) (by decide) (Nat.le_of_ble_eq_true rfl) rfl (fun _ => rfl) (fun z66 e66 => ?_)
            refine J_goto (pc := 69) 43 dX4_read_69 (by decide) ?_
            refine J_aload_n (pc := 43) dX4_read_43 rfl ?_
            refine J_getI (pc := 44) fF_X4_111 rfl rfl dX4_read_44 ?_
            refine J_if_geW (pc := 47) (q : Int) e2 72 dX4_read_47 (by decide) (fun h47 => ?_) (fun h47 => ?_)
            · exact J_lv' (lv' := [some (.ref 0), some (.int z66), none]) (by repeat' constructor) (hk2 μ63 z66 (Or.inl ⟨_, par_0 hnE e1, e2⟩) hRR)
            · exfalso; omega
          · refine J_iincW' (pc := 66) (n : Int) hnv (lv' := fun iq_ => [some (.ref 0), some (.int iq_), none]) dX4_read_66 rfl (by omega) (by decide) (Nat.le_of_ble_eq_true rfl) rfl (fun _ => rfl) (fun z66 e66 => ?_)
            refine J_goto (pc := 69) 43 dX4_read_69 (by decide) ?_
            have hge := item_ge hsk.2.1 hT2.2.1 e1
            have hse := SK_r (T := T) he hT2.2.1
            rw [par_2 hnE e1 e2] at hk2
            exact ih (SK L T e + 1) (n + 1) z66 μ63 f' (by omega) (by omega) (by omega) (by omega) (by omega) e3 (TM_R hT51 hR63) e5 (item_wf hw hn1 e1) ⟨fun j hj => by rw [hR63.1 2 (by decide) (by decide)]; exact hc51.1 j hj, fun j hj => by rw [hR63.1 3 (by decide) (by decide)]; exact hc51.2 j hj⟩ (fun h0 => absurd h0 (by omega)) hRR hk2
          · refine J_iincW' (pc := 66) (n : Int) hnv (lv' := fun iq_ => [some (.ref 0), some (.int iq_), none]) dX4_read_66 rfl (by omega) (by decide) (Nat.le_of_ble_eq_true rfl) rfl (fun _ => rfl) (fun z66 e66 => ?_)
            refine J_goto (pc := 69) 43 dX4_read_69 (by decide) ?_
            refine J_aload_n (pc := 43) dX4_read_43 rfl ?_
            refine J_getI (pc := 44) fF_X4_111 rfl rfl dX4_read_44 ?_
            refine J_if_geW (pc := 47) (SK L T e : Int) e3 72 dX4_read_47 (by decide) (fun h47 => ?_) (fun h47 => ?_)
            · exact J_lv' (lv' := [some (.ref 0), some (.int z66), none]) (by repeat' constructor) (hk2 μ63 z66 (Or.inl ⟨_, par_1 hnE e1 e2, e3⟩) hRR)
            · exfalso; omega
