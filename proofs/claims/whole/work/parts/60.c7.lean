set_option maxHeartbeats 1000000 in
set_option maxRecDepth 20000 in
theorem c7_why0 {G : xG} {d : Nat} {Q : xQ} {ws : va_W} {b c : Nat → Nat} {t : Nat → Nat} {NM : Nat → Int64} {sn : Option Nat} {x y : Nat} {vn : Int32} (hN : NB G) (hS : STR G ws b c sn t) (hC : CHR G ws c t NM) (hw : WT t) (hx : x < t 2) (hy : y < t 0) (kk : Q (some (.int (nI (whyX t x y)))) ws) : MT G MX7_whyNot (d + 3) 0 0 [.ref (b 12), .int (nI 0), .int (nI x), .int (nI y), .int vn] ws Q := by
  obtain ⟨sd, hSo, hS2, hS3, hS6, hS7, hS8, hS9, hS10⟩ := id hS
  obtain ⟨hb, h0, h1, h2, hR, hP, hD, hCl, hT⟩ := id hw
  refine mt_start (L := [some (.ref (b 12)), some (.int (nI 0)), some (.int (nI x)), some (.int (nI y)), some (.int vn)]) rfl (Nat.le_of_ble_eq_true rfl) rfl ?_
  refine aw_iload_n (pc := 0) (i := 1) dX7_whyNot_0 rfl rfl ?_
  refine aw_tabIn (pc := 1) (tgt := 40) dX7_whyNot_1 (by decide) (by decide) rfl rfl ?_
  refine aw_aload_n (pc := 40) (i := 0) dX7_whyNot_40 rfl rfl ?_
  refine aw_iload_n (pc := 41) (i := 2) dX7_whyNot_41 rfl rfl ?_
  refine aw_iload_n (pc := 42) (i := 3) dX7_whyNot_42 rfl rfl ?_
  refine cVi (pc := 43) (As := [.int (nI x), .int (nI y)]) (rest := []) dX7_whyNot_43 rfl oc_X7_51 rfl rfl (Nat.le_of_ble_eq_true rfl) rfl rfl hSo (Nat.le_refl _) (Nat.le_refl _) (c7_over hN hS hC hw (by omega) (by omega) ⟨_, rfl, ?_⟩)
  exact aw_iret (pc := 46) dX7_whyNot_46 rfl (Nat.le_refl _) (Nat.le_refl _) (kk)
set_option maxHeartbeats 1000000 in
set_option maxRecDepth 20000 in
theorem c7_why1 {G : xG} {d : Nat} {Q : xQ} {ws : va_W} {b c : Nat → Nat} {t : Nat → Nat} {NM : Nat → Int64} {sn : Option Nat} {x y : Nat} {vn : Int32} (hN : NB G) (hS : STR G ws b c sn t) (hC : CHR G ws c t NM) (hw : WT t) (hx : x < t 0) (hy : y < t 0) (kk : Q (some (.int (nI (whyPactF t x y)))) ws) : MT G MX7_whyNot (d + 1) 0 0 [.ref (b 12), .int (nI 1), .int (nI x), .int (nI y), .int vn] ws Q := by
  obtain ⟨sd, hSo, hS2, hS3, hS6, hS7, hS8, hS9, hS10⟩ := id hS
  obtain ⟨hb, h0, h1, h2, hR, hP, hD, hCl, hT⟩ := id hw
  refine mt_start (L := [some (.ref (b 12)), some (.int (nI 1)), some (.int (nI x)), some (.int (nI y)), some (.int vn)]) rfl (Nat.le_of_ble_eq_true rfl) rfl ?_
  refine aw_iload_n (pc := 0) (i := 1) dX7_whyNot_0 rfl rfl ?_
  refine aw_tabIn (pc := 1) (tgt := 47) dX7_whyNot_1 (by decide) (by decide) rfl rfl ?_
  refine aw_iload_n (pc := 47) (i := 2) dX7_whyNot_47 rfl rfl ?_
  refine aw_iload_n (pc := 48) (i := 3) dX7_whyNot_48 rfl rfl ?_
  refine an_icmp_ne (pc := 49) (tgt := 56) dX7_whyNot_49 rfl (by omega) (by omega) (fun h49 => ?_) (fun h49 => ?_)
  · -- 56
    refine aw_aload_n (pc := 56) (i := 0) dX7_whyNot_56 rfl rfl ?_
    refine av_get (pc := 57) (x := .ref (b 3)) dX7_whyNot_57 rfl og_X7_19 rfl hSo rfl ?_
    refine aw_iload_n (pc := 60) (i := 2) dX7_whyNot_60 rfl rfl ?_
    refine av_iald (pc := 61) (x := (nI (t (101 + x)))) dX7_whyNot_61 hS3 (by omega) (by decide) rfl ?_
    refine aw_iload_n (pc := 62) (i := 3) dX7_whyNot_62 rfl rfl ?_
    refine cNi (pc := 63) (As := [.int (nI (t (101 + x))), .int (nI y)]) (rest := []) dX7_whyNot_63 rfl oc_X7_55 (hN.x7) rfl rfl (Nat.le_of_ble_eq_true rfl) (Nat.le_refl _) (Nat.le_refl _) (c_hasBit (Nat.lt_trans (hb _) (by decide)) (by omega) ⟨_, rfl, ?_⟩)
    refine ab_if_eq (pc := 66) (tgt := 73) dX7_whyNot_66 rfl (fun h66 => ?_) (fun h66 => ?_)
    · -- 73
      refine aw_iconst (pc := 73) dX7_whyNot_73 iconst_0 ?_
      exact aw_iret (pc := 74) dX7_whyNot_74 rfl (Nat.le_refl _) (Nat.le_refl _) (by rw [show whyPactF t x y = 0 from by unfold whyPactF; split <;> (try split) <;> simp_all <;> omega] at kk; exact kk)
    · -- 69
      refine aw_iconst (pc := 69) dX7_whyNot_69 iconst_2 ?_
      refine aw_goto (pc := 70) (tgt := 74) dX7_whyNot_70 rfl ?_
      exact aw_iret (pc := 74) dX7_whyNot_74 rfl (Nat.le_refl _) (Nat.le_refl _) (by rw [show whyPactF t x y = 2 from by unfold whyPactF; split <;> (try split) <;> simp_all <;> omega] at kk; exact kk)
  · -- 52
    refine aw_iconst (pc := 52) dX7_whyNot_52 iconst_1 ?_
    refine aw_goto (pc := 53) (tgt := 74) dX7_whyNot_53 rfl ?_
    exact aw_iret (pc := 74) dX7_whyNot_74 rfl (Nat.le_refl _) (Nat.le_refl _) (by rw [show whyPactF t x y = 1 from by unfold whyPactF; split <;> (try split) <;> simp_all <;> omega] at kk; exact kk)
set_option maxHeartbeats 1000000 in
set_option maxRecDepth 20000 in
theorem c7_why2 {G : xG} {d : Nat} {Q : xQ} {ws : va_W} {b c : Nat → Nat} {t : Nat → Nat} {NM : Nat → Int64} {sn : Option Nat} {x y : Nat} {vn : Int32} (hN : NB G) (hS : STR G ws b c sn t) (hC : CHR G ws c t NM) (hw : WT t) (hx : x < t 0) (hy : y < t 0) (kk : Q (some (.int (nI ((if (t (101 + x)).testBit y = true then 0 else 1))))) ws) : MT G MX7_whyNot (d + 1) 0 0 [.ref (b 12), .int (nI 2), .int (nI x), .int (nI y), .int vn] ws Q := by
  obtain ⟨sd, hSo, hS2, hS3, hS6, hS7, hS8, hS9, hS10⟩ := id hS
  obtain ⟨hb, h0, h1, h2, hR, hP, hD, hCl, hT⟩ := id hw
  refine mt_start (L := [some (.ref (b 12)), some (.int (nI 2)), some (.int (nI x)), some (.int (nI y)), some (.int vn)]) rfl (Nat.le_of_ble_eq_true rfl) rfl ?_
  refine aw_iload_n (pc := 0) (i := 1) dX7_whyNot_0 rfl rfl ?_
  refine aw_tabIn (pc := 1) (tgt := 75) dX7_whyNot_1 (by decide) (by decide) rfl rfl ?_
  refine aw_aload_n (pc := 75) (i := 0) dX7_whyNot_75 rfl rfl ?_
  refine av_get (pc := 76) (x := .ref (b 3)) dX7_whyNot_76 rfl og_X7_19 rfl hSo rfl ?_
  refine aw_iload_n (pc := 79) (i := 2) dX7_whyNot_79 rfl rfl ?_
  refine av_iald (pc := 80) (x := (nI (t (101 + x)))) dX7_whyNot_80 hS3 (by omega) (by decide) rfl ?_
  refine aw_iload_n (pc := 81) (i := 3) dX7_whyNot_81 rfl rfl ?_
  refine cNi (pc := 82) (As := [.int (nI (t (101 + x))), .int (nI y)]) (rest := []) dX7_whyNot_82 rfl oc_X7_55 (hN.x7) rfl rfl (Nat.le_of_ble_eq_true rfl) (Nat.le_refl _) (Nat.le_refl _) (c_hasBit (Nat.lt_trans (hb _) (by decide)) (by omega) ⟨_, rfl, ?_⟩)
  refine ab_if_eq (pc := 85) (tgt := 92) dX7_whyNot_85 rfl (fun h85 => ?_) (fun h85 => ?_)
  · -- 92
    refine aw_iconst (pc := 92) dX7_whyNot_92 iconst_1 ?_
    exact aw_iret (pc := 93) dX7_whyNot_93 rfl (Nat.le_refl _) (Nat.le_refl _) (by rw [show (if (t (101 + x)).testBit y = true then 0 else 1) = 1 from by split <;> (try split) <;> simp_all <;> omega] at kk; exact kk)
  · -- 88
    refine aw_iconst (pc := 88) dX7_whyNot_88 iconst_0 ?_
    refine aw_goto (pc := 89) (tgt := 93) dX7_whyNot_89 rfl ?_
    exact aw_iret (pc := 93) dX7_whyNot_93 rfl (Nat.le_refl _) (Nat.le_refl _) (by rw [show (if (t (101 + x)).testBit y = true then 0 else 1) = 0 from by split <;> (try split) <;> simp_all <;> omega] at kk; exact kk)
set_option maxHeartbeats 1000000 in
set_option maxRecDepth 20000 in
theorem c7_why3 {G : xG} {d : Nat} {Q : xQ} {ws : va_W} {b c : Nat → Nat} {t : Nat → Nat} {NM : Nat → Int64} {sn : Option Nat} {x : Nat} {vb vn : Int32} (hN : NB G) (hS : STR G ws b c sn t) (hC : CHR G ws c t NM) (hw : WT t) (hx : x < 12) (kk : Q (some (.int (nI (whyTurnF t x true)))) ws) : MT G MX7_whyNot (d + 1) 0 0 [.ref (b 12), .int (nI 3), .int (nI x), .int vb, .int vn] ws Q := by
  obtain ⟨sd, hSo, hS2, hS3, hS6, hS7, hS8, hS9, hS10⟩ := id hS
  obtain ⟨hb, h0, h1, h2, hR, hP, hD, hCl, hT⟩ := id hw
  refine mt_start (L := [some (.ref (b 12)), some (.int (nI 3)), some (.int (nI x)), some (.int vb), some (.int vn)]) rfl (Nat.le_of_ble_eq_true rfl) rfl ?_
  refine aw_iload_n (pc := 0) (i := 1) dX7_whyNot_0 rfl rfl ?_
  refine aw_tabIn (pc := 1) (tgt := 94) dX7_whyNot_1 (by decide) (by decide) rfl rfl ?_
  refine aw_iload_n (pc := 94) (i := 2) dX7_whyNot_94 rfl rfl ?_
  refine aw_aload_n (pc := 95) (i := 0) dX7_whyNot_95 rfl rfl ?_
  refine av_get (pc := 96) (x := .ref (c 13)) dX7_whyNot_96 rfl og_X7_47 rfl hSo rfl ?_
  refine av_get (pc := 99) (x := .int (nI (t 1))) dX7_whyNot_99 rfl og_X7_59 rfl hC.ov rfl ?_
  refine an_icmp_lt (pc := 102) (tgt := 109) dX7_whyNot_102 rfl (by omega) (Nat.lt_trans (hb _) (by decide)) (fun h102 => ?_) (fun h102 => ?_)
  · -- 109
    refine aw_aload_n (pc := 109) (i := 0) dX7_whyNot_109 rfl rfl ?_
    refine av_get (pc := 110) (x := .int (nI (t 93))) dX7_whyNot_110 rfl og_X7_22 rfl hSo rfl ?_
    refine aw_iload_n (pc := 113) (i := 2) dX7_whyNot_113 rfl rfl ?_
    refine cNi (pc := 114) (As := [.int (nI (t 93)), .int (nI x)]) (rest := []) dX7_whyNot_114 rfl oc_X7_55 (hN.x7) rfl rfl (Nat.le_of_ble_eq_true rfl) (Nat.le_refl _) (Nat.le_refl _) (c_hasBit (Nat.lt_trans (hb _) (by decide)) (by omega) ⟨_, rfl, ?_⟩)
    refine ab_if_eq (pc := 117) (tgt := 124) dX7_whyNot_117 rfl (fun h117 => ?_) (fun h117 => ?_)
    · -- 124
      refine aw_iconst (pc := 124) dX7_whyNot_124 iconst_0 ?_
      exact aw_iret (pc := 125) dX7_whyNot_125 rfl (Nat.le_refl _) (Nat.le_refl _) (by rw [show whyTurnF t x true = 0 from by unfold whyTurnF; split <;> (try split) <;> simp_all <;> omega] at kk; exact kk)
    · -- 120
      refine aw_iconst (pc := 120) dX7_whyNot_120 iconst_2 ?_
      refine aw_goto (pc := 121) (tgt := 125) dX7_whyNot_121 rfl ?_
      exact aw_iret (pc := 125) dX7_whyNot_125 rfl (Nat.le_refl _) (Nat.le_refl _) (by rw [show whyTurnF t x true = 2 from by unfold whyTurnF; split <;> (try split) <;> simp_all <;> omega] at kk; exact kk)
  · -- 105
    refine aw_iconst (pc := 105) dX7_whyNot_105 iconst_1 ?_
    refine aw_goto (pc := 106) (tgt := 125) dX7_whyNot_106 rfl ?_
    exact aw_iret (pc := 125) dX7_whyNot_125 rfl (Nat.le_refl _) (Nat.le_refl _) (by rw [show whyTurnF t x true = 1 from by unfold whyTurnF; split <;> (try split) <;> simp_all <;> omega] at kk; exact kk)
set_option maxHeartbeats 1000000 in
set_option maxRecDepth 20000 in
theorem c7_why4 {G : xG} {d : Nat} {Q : xQ} {ws : va_W} {b c : Nat → Nat} {t : Nat → Nat} {NM : Nat → Int64} {sn : Option Nat} {x : Nat} {vb vn : Int32} (hN : NB G) (hS : STR G ws b c sn t) (hC : CHR G ws c t NM) (hw : WT t) (hx : x < 12) (kk : Q (some (.int (nI (whyTurnF t x false)))) ws) : MT G MX7_whyNot (d + 1) 0 0 [.ref (b 12), .int (nI 4), .int (nI x), .int vb, .int vn] ws Q := by
  obtain ⟨sd, hSo, hS2, hS3, hS6, hS7, hS8, hS9, hS10⟩ := id hS
  obtain ⟨hb, h0, h1, h2, hR, hP, hD, hCl, hT⟩ := id hw
  refine mt_start (L := [some (.ref (b 12)), some (.int (nI 4)), some (.int (nI x)), some (.int vb), some (.int vn)]) rfl (Nat.le_of_ble_eq_true rfl) rfl ?_
  refine aw_iload_n (pc := 0) (i := 1) dX7_whyNot_0 rfl rfl ?_
  refine aw_tabIn (pc := 1) (tgt := 126) dX7_whyNot_1 (by decide) (by decide) rfl rfl ?_
  refine aw_iload_n (pc := 126) (i := 2) dX7_whyNot_126 rfl rfl ?_
  refine aw_aload_n (pc := 127) (i := 0) dX7_whyNot_127 rfl rfl ?_
  refine av_get (pc := 128) (x := .ref (c 13)) dX7_whyNot_128 rfl og_X7_47 rfl hSo rfl ?_
  refine av_get (pc := 131) (x := .int (nI (t 1))) dX7_whyNot_131 rfl og_X7_59 rfl hC.ov rfl ?_
  refine an_icmp_lt (pc := 134) (tgt := 141) dX7_whyNot_134 rfl (by omega) (Nat.lt_trans (hb _) (by decide)) (fun h134 => ?_) (fun h134 => ?_)
  · -- 141
    refine aw_aload_n (pc := 141) (i := 0) dX7_whyNot_141 rfl rfl ?_
    refine av_get (pc := 142) (x := .int (nI (t 93))) dX7_whyNot_142 rfl og_X7_22 rfl hSo rfl ?_
    refine aw_iload_n (pc := 145) (i := 2) dX7_whyNot_145 rfl rfl ?_
    refine cNi (pc := 146) (As := [.int (nI (t 93)), .int (nI x)]) (rest := []) dX7_whyNot_146 rfl oc_X7_55 (hN.x7) rfl rfl (Nat.le_of_ble_eq_true rfl) (Nat.le_refl _) (Nat.le_refl _) (c_hasBit (Nat.lt_trans (hb _) (by decide)) (by omega) ⟨_, rfl, ?_⟩)
    refine ab_if_eq (pc := 149) (tgt := 156) dX7_whyNot_149 rfl (fun h149 => ?_) (fun h149 => ?_)
    · -- 156
      refine aw_iconst (pc := 156) dX7_whyNot_156 iconst_2 ?_
      exact aw_iret (pc := 157) dX7_whyNot_157 rfl (Nat.le_refl _) (Nat.le_refl _) (by rw [show whyTurnF t x false = 2 from by unfold whyTurnF; split <;> (try split) <;> simp_all <;> omega] at kk; exact kk)
    · -- 152
      refine aw_iconst (pc := 152) dX7_whyNot_152 iconst_0 ?_
      refine aw_goto (pc := 153) (tgt := 157) dX7_whyNot_153 rfl ?_
      exact aw_iret (pc := 157) dX7_whyNot_157 rfl (Nat.le_refl _) (Nat.le_refl _) (by rw [show whyTurnF t x false = 0 from by unfold whyTurnF; split <;> (try split) <;> simp_all <;> omega] at kk; exact kk)
  · -- 137
    refine aw_iconst (pc := 137) dX7_whyNot_137 iconst_1 ?_
    refine aw_goto (pc := 138) (tgt := 157) dX7_whyNot_138 rfl ?_
    exact aw_iret (pc := 157) dX7_whyNot_157 rfl (Nat.le_refl _) (Nat.le_refl _) (by rw [show whyTurnF t x false = 1 from by unfold whyTurnF; split <;> (try split) <;> simp_all <;> omega] at kk; exact kk)
set_option maxHeartbeats 1000000 in
set_option maxRecDepth 20000 in
theorem c7_why5 {G : xG} {d : Nat} {Q : xQ} {ws : va_W} {b c : Nat → Nat} {t : Nat → Nat} {NM : Nat → Int64} {sn : Option Nat} {x y m : Nat} (hS : STR G ws b c sn t) (hC : CHR G ws c t NM) (hw : WT t) (hx : x < t 0) (hy : y < t 0) (hm : m ≤ 99) (kk : Q (some (.int (nI (whyLendF t x y m)))) ws) : MT G MX7_whyNot (d) 0 0 [.ref (b 12), .int (nI 5), .int (nI x), .int (nI y), .int (nI m)] ws Q := by
  obtain ⟨sd, hSo, hS2, hS3, hS6, hS7, hS8, hS9, hS10⟩ := id hS
  obtain ⟨hb, h0, h1, h2, hR, hP, hD, hCl, hT⟩ := id hw
  refine mt_start (L := [some (.ref (b 12)), some (.int (nI 5)), some (.int (nI x)), some (.int (nI y)), some (.int (nI m))]) rfl (Nat.le_of_ble_eq_true rfl) rfl ?_
  refine aw_iload_n (pc := 0) (i := 1) dX7_whyNot_0 rfl rfl ?_
  refine aw_tabIn (pc := 1) (tgt := 158) dX7_whyNot_1 (by decide) (by decide) rfl rfl ?_
  refine aw_iload_n (pc := 158) (i := 2) dX7_whyNot_158 rfl rfl ?_
  refine aw_iload_n (pc := 159) (i := 3) dX7_whyNot_159 rfl rfl ?_
  refine an_icmp_ne (pc := 160) (tgt := 167) dX7_whyNot_160 rfl (by omega) (by omega) (fun h160 => ?_) (fun h160 => ?_)
  · -- 167
    refine aw_aload_n (pc := 167) (i := 0) dX7_whyNot_167 rfl rfl ?_
    refine av_get (pc := 168) (x := .ref (b 2)) dX7_whyNot_168 rfl og_X7_15 rfl hSo rfl ?_
    refine aw_iload_n (pc := 171) (i := 2) dX7_whyNot_171 rfl rfl ?_
    refine av_iald (pc := 172) (x := (nI (t (94 + x)))) dX7_whyNot_172 hS2 (by omega) (by decide) rfl ?_
    refine aw_iload (pc := 173) dX7_whyNot_173 rfl ?_
    refine an_icmp_ge (pc := 175) (tgt := 182) dX7_whyNot_175 rfl (Nat.lt_trans (hb _) (by decide)) (by omega) (fun h175 => ?_) (fun h175 => ?_)
    · -- 182
      refine aw_iconst (pc := 182) dX7_whyNot_182 iconst_0 ?_
      exact aw_iret (pc := 183) dX7_whyNot_183 rfl (Nat.le_refl _) (Nat.le_refl _) (by rw [show whyLendF t x y m = 0 from by unfold whyLendF; split <;> (try split) <;> simp_all <;> omega] at kk; exact kk)
    · -- 178
      refine aw_iconst (pc := 178) dX7_whyNot_178 iconst_2 ?_
      refine aw_goto (pc := 179) (tgt := 183) dX7_whyNot_179 rfl ?_
      exact aw_iret (pc := 183) dX7_whyNot_183 rfl (Nat.le_refl _) (Nat.le_refl _) (by rw [show whyLendF t x y m = 2 from by unfold whyLendF; split <;> (try split) <;> simp_all <;> omega] at kk; exact kk)
  · -- 163
    refine aw_iconst (pc := 163) dX7_whyNot_163 iconst_1 ?_
    refine aw_goto (pc := 164) (tgt := 183) dX7_whyNot_164 rfl ?_
    exact aw_iret (pc := 183) dX7_whyNot_183 rfl (Nat.le_refl _) (Nat.le_refl _) (by rw [show whyLendF t x y m = 1 from by unfold whyLendF; split <;> (try split) <;> simp_all <;> omega] at kk; exact kk)
set_option maxHeartbeats 1000000 in
set_option maxRecDepth 20000 in
theorem c7_why6 {G : xG} {d : Nat} {Q : xQ} {ws : va_W} {b c : Nat → Nat} {t : Nat → Nat} {NM : Nat → Int64} {sn : Option Nat} {m : Nat} {va vb : Int32} (hS : STR G ws b c sn t) (hC : CHR G ws c t NM) (hw : WT t) (hm : m ≤ 60) (kk : Q (some (.int (nI ((if 400 < t 91 + m then 1 else 0))))) ws) : MT G MX7_whyNot (d) 0 0 [.ref (b 12), .int (nI 6), .int va, .int vb, .int (nI m)] ws Q := by
  obtain ⟨sd, hSo, hS2, hS3, hS6, hS7, hS8, hS9, hS10⟩ := id hS
  obtain ⟨hb, h0, h1, h2, hR, hP, hD, hCl, hT⟩ := id hw
  refine mt_start (L := [some (.ref (b 12)), some (.int (nI 6)), some (.int va), some (.int vb), some (.int (nI m))]) rfl (Nat.le_of_ble_eq_true rfl) rfl ?_
  refine aw_iload_n (pc := 0) (i := 1) dX7_whyNot_0 rfl rfl ?_
  refine aw_tabOut (pc := 1) (tgt := 184) dX7_whyNot_1 (by decide) rfl ?_
  refine aw_sipush (pc := 184) dX7_whyNot_184 sipush_400 ?_
  refine aw_aload_n (pc := 187) (i := 0) dX7_whyNot_187 rfl rfl ?_
  refine av_get (pc := 188) (x := .int (nI (t 91))) dX7_whyNot_188 rfl og_X7_26 rfl hSo rfl ?_
  refine an_sub (pc := 191) dX7_whyNot_191 hD ?_
  refine aw_iload (pc := 192) dX7_whyNot_192 rfl ?_
  refine an_icmp_ge (pc := 194) (tgt := 201) dX7_whyNot_194 rfl (by omega) (by omega) (fun h194 => ?_) (fun h194 => ?_)
  · -- 201
    refine aw_iconst (pc := 201) dX7_whyNot_201 iconst_0 ?_
    exact aw_iret (pc := 202) dX7_whyNot_202 rfl (Nat.le_refl _) (Nat.le_refl _) (by rw [show (if 400 < t 91 + m then 1 else 0) = 0 from by split <;> (try split) <;> simp_all <;> omega] at kk; exact kk)
  · -- 197
    refine aw_iconst (pc := 197) dX7_whyNot_197 iconst_1 ?_
    refine aw_goto (pc := 198) (tgt := 202) dX7_whyNot_198 rfl ?_
    exact aw_iret (pc := 202) dX7_whyNot_202 rfl (Nat.le_refl _) (Nat.le_refl _) (by rw [show (if 400 < t 91 + m then 1 else 0) = 1 from by split <;> (try split) <;> simp_all <;> omega] at kk; exact kk)
theorem nI_clr {v y : Nat} (hv : v < 2 ^ 31) (hy : y < 31) (hb : v.testBit y = true) : nI v &&& (nI (2 ^ y) ^^^ (-1)) = nI (v ^^^ 2 ^ y) := by
  apply Int32.toBitVec_inj.mp
  have e : ∀ z, (nI z).toBitVec = BitVec.ofNat 32 z := fun z => rfl
  rw [Int32.toBitVec_and, Int32.toBitVec_xor, e, e, e, show (-1 : Int32).toBitVec = BitVec.allOnes 32 from rfl]
  apply BitVec.eq_of_getLsbD_eq
  intro i hi
  simp only [BitVec.getLsbD_and, BitVec.getLsbD_xor, BitVec.getLsbD_ofNat, BitVec.getLsbD_allOnes, hi, decide_true, Bool.true_and, Nat.testBit_xor, Nat.testBit_two_pow]
  by_cases h : y = i
  · subst h; simp [hb]
  · simp [h]
theorem SRl.up3 {c : Nat → Nat} {sn : Option Nat} {t : Nat → Nat} {sd : Int32} {κ : kS} {x v : Nat} (h : SRl c sn t sd κ) (h7 : t 0 ≤ 7) (h6 : t 2 ≤ 6) (hx : x < t 0) : SRl c sn (upN t (101 + x) v) sd (kI κ 3 x (nI v)) := by
  obtain ⟨e0, e1, e4, e5, e11, hL, hQ⟩ := h
  refine ⟨e0, e1, by rw [upN_n _ _ _ _ (by omega)]; exact e4, by rw [upN_n _ _ _ _ (by omega)]; exact e5, e11, fun j hj => ?_, fun j hj => ?_⟩
  · rw [upN_n _ _ _ _ (by omega)] at hj
    refine ⟨by rw [upN_n _ _ _ _ (by omega)]; exact (hL j hj).1, ?_⟩
    show upN (κ.2.1 3) x _ j = _
    by_cases e : j = x
    · subst e; rw [upN_s, upN_s]
    · rw [upN_n _ _ _ _ e, upN_n _ _ _ _ (by omega)]; exact (hL j hj).2
  · rw [upN_n _ _ _ _ (by omega)] at hj
    rw [upN_n _ _ _ _ (by omega), upN_n _ _ _ _ (by omega), upN_n _ _ _ _ (by omega), upN_n _ _ _ _ (by omega), upN_n _ _ _ _ (by omega)]; exact hQ j hj
theorem SRl.up2 {c : Nat → Nat} {sn : Option Nat} {t : Nat → Nat} {sd : Int32} {κ : kS} {x v : Nat} (h : SRl c sn t sd κ) (h7 : t 0 ≤ 7) (h6 : t 2 ≤ 6) (hx : x < t 0) : SRl c sn (upN t (94 + x) v) sd (kI κ 2 x (nI v)) := by
  obtain ⟨e0, e1, e4, e5, e11, hL, hQ⟩ := h
  refine ⟨e0, e1, by rw [upN_n _ _ _ _ (by omega)]; exact e4, by rw [upN_n _ _ _ _ (by omega)]; exact e5, e11, fun j hj => ?_, fun j hj => ?_⟩
  · rw [upN_n _ _ _ _ (by omega)] at hj
    refine ⟨?_, by rw [upN_n _ _ _ _ (by omega)]; exact (hL j hj).2⟩
    show upN (κ.2.1 2) x _ j = _
    by_cases e : j = x
    · subst e; rw [upN_s, upN_s]
    · rw [upN_n _ _ _ _ e, upN_n _ _ _ _ (by omega)]; exact (hL j hj).1
  · rw [upN_n _ _ _ _ (by omega)] at hj
    rw [upN_n _ _ _ _ (by omega), upN_n _ _ _ _ (by omega), upN_n _ _ _ _ (by omega), upN_n _ _ _ _ (by omega), upN_n _ _ _ _ (by omega)]; exact hQ j hj
set_option maxHeartbeats 1000000 in
set_option maxRecDepth 20000 in
theorem c7_do0 {G : xG} {d : Nat} {Q : xQ} {b c : Nat → Nat} {t : Nat → Nat} {NM : Nat → Int64} {sn : Option Nat} {sd : Int32} {κ : kS} {R : va_W} {x y : Nat} {vn : Int32} (hN : NB G) (h : SRl c sn t sd κ) (hC : CHR G R c t NM) (hw : WT t) (hx : x < t 2) (hy : y < t 0) (hw0 : whyX t x y = 0) (kk : ∀ κ9, SRl c sn (crossF t x y) sd κ9 → Q none (wSt G.2.2.1 b κ9 ++ R)) : MT G MX7_perform (d + 3) 0 0 [.ref (b 12), .int (nI 0), .int (nI x), .int (nI y), .int vn] (wSt G.2.2.1 b κ ++ R) Q := by
  obtain ⟨hb, h0, h1, h2, hR, hP, hD, hCl, hT⟩ := id hw
  refine mt_start (L := [some (.ref (b 12)), some (.int (nI 0)), some (.int (nI x)), some (.int (nI y)), some (.int vn), none]) rfl (Nat.le_of_ble_eq_true rfl) rfl ?_
  refine aw_iload_n (pc := 0) (i := 1) dX7_perform_0 rfl rfl ?_
  refine aw_tabIn (pc := 1) (tgt := 40) dX7_perform_1 (by decide) (by decide) rfl rfl ?_
  refine aw_aload_n (pc := 40) (i := 0) dX7_perform_40 rfl rfl ?_
  refine aw_iload_n (pc := 41) (i := 2) dX7_perform_41 rfl rfl ?_
  refine aw_iload_n (pc := 42) (i := 3) dX7_perform_42 rfl rfl ?_
  refine cVv (pc := 43) (As := [.int (nI x), .int (nI y)]) (rest := []) dX7_perform_43 rfl oc_X7_64 rfl rfl (Nat.le_of_ble_eq_true rfl) rfl rfl ovX7 (Nat.le_refl _) (Nat.le_refl _) (c7_goOver hN h hC hw hx hy hw0 ?_)
  intro κ1 g1
  refine ⟨rfl, ?_⟩
  refine aw_goto (pc := 46) (tgt := 134) dX7_perform_46 rfl ?_
  exact aw_vret (pc := 134) dX7_perform_134 rfl (Nat.le_refl _) (Nat.le_refl _) (kk _ g1)
set_option maxHeartbeats 1000000 in
set_option maxRecDepth 20000 in
theorem c7_do1 {G : xG} {d : Nat} {Q : xQ} {b c : Nat → Nat} {t : Nat → Nat} {NM : Nat → Int64} {sn : Option Nat} {sd : Int32} {κ : kS} {R : va_W} {x y : Nat} {vn : Int32} (h : SRl c sn t sd κ) (hC : CHR G R c t NM) (hw : WT t) (hx : x < t 0) (hy : y < t 0) (kk : ∀ κ9, SRl c sn (upN t (101 + x) (t (101 + x) ||| 2 ^ y)) sd κ9 → Q none (wSt G.2.2.1 b κ9 ++ R)) : MT G MX7_perform (d) 0 0 [.ref (b 12), .int (nI 1), .int (nI x), .int (nI y), .int vn] (wSt G.2.2.1 b κ ++ R) Q := by
  obtain ⟨hb, h0, h1, h2, hR, hP, hD, hCl, hT⟩ := id hw
  refine mt_start (L := [some (.ref (b 12)), some (.int (nI 1)), some (.int (nI x)), some (.int (nI y)), some (.int vn), none]) rfl (Nat.le_of_ble_eq_true rfl) rfl ?_
  refine aw_iload_n (pc := 0) (i := 1) dX7_perform_0 rfl rfl ?_
  refine aw_tabIn (pc := 1) (tgt := 49) dX7_perform_1 (by decide) (by decide) rfl rfl ?_
  refine aw_aload_n (pc := 49) (i := 0) dX7_perform_49 rfl rfl ?_
  refine pg_X7_19 (pc := 50) dX7_perform_50 rfl ?_
  refine aw_iload_n (pc := 53) (i := 2) dX7_perform_53 rfl rfl ?_
  refine aw_dup2 (pc := 54) dX7_perform_54 rfl rfl ?_
  refine pl_X7_spares (pc := 55) (x := (nI (t (101 + x)))) dX7_perform_55 (by omega) (h.2.2.2.2.2.1 _ (by omega)).2 ?_
  refine aw_iconst (pc := 56) dX7_perform_56 iconst_1 ?_
  refine aw_iload_n (pc := 57) (i := 3) dX7_perform_57 rfl rfl ?_
  refine aw_ishl (pc := 58) dX7_perform_58 ?_
  refine aw_top (y := (nI (2 ^ y))) (nI_1shl (by omega)) ?_
  refine aw_ior (pc := 59) dX7_perform_59 ?_
  refine aw_top (y := (nI (t (101 + x) ||| 2 ^ y))) (nI_or _ _ (Nat.lt_trans (hb _) (by decide)) (by have := two7 (x := y) (by omega); omega)) ?_
  refine ps_X7_spares (pc := 60) dX7_perform_60 (by omega) ?_
  refine aw_goto (pc := 61) (tgt := 134) dX7_perform_61 rfl ?_
  exact aw_vret (pc := 134) dX7_perform_134 rfl (Nat.le_refl _) (Nat.le_refl _) (kk _ (h.up3 h0 h2 hx))
set_option maxHeartbeats 1000000 in
set_option maxRecDepth 20000 in
theorem c7_do2 {G : xG} {d : Nat} {Q : xQ} {b c : Nat → Nat} {t : Nat → Nat} {NM : Nat → Int64} {sn : Option Nat} {sd : Int32} {κ : kS} {R : va_W} {x y : Nat} {vn : Int32} (h : SRl c sn t sd κ) (hC : CHR G R c t NM) (hw : WT t) (hx : x < t 0) (hy : y < t 0) (hw0 : (t (101 + x)).testBit y = true) (kk : ∀ κ9, SRl c sn (upN t (101 + x) (t (101 + x) ^^^ 2 ^ y)) sd κ9 → Q none (wSt G.2.2.1 b κ9 ++ R)) : MT G MX7_perform (d) 0 0 [.ref (b 12), .int (nI 2), .int (nI x), .int (nI y), .int vn] (wSt G.2.2.1 b κ ++ R) Q := by
  obtain ⟨hb, h0, h1, h2, hR, hP, hD, hCl, hT⟩ := id hw
  refine mt_start (L := [some (.ref (b 12)), some (.int (nI 2)), some (.int (nI x)), some (.int (nI y)), some (.int vn), none]) rfl (Nat.le_of_ble_eq_true rfl) rfl ?_
  refine aw_iload_n (pc := 0) (i := 1) dX7_perform_0 rfl rfl ?_
  refine aw_tabIn (pc := 1) (tgt := 64) dX7_perform_1 (by decide) (by decide) rfl rfl ?_
  refine aw_aload_n (pc := 64) (i := 0) dX7_perform_64 rfl rfl ?_
  refine pg_X7_19 (pc := 65) dX7_perform_65 rfl ?_
  refine aw_iload_n (pc := 68) (i := 2) dX7_perform_68 rfl rfl ?_
  refine aw_dup2 (pc := 69) dX7_perform_69 rfl rfl ?_
  refine pl_X7_spares (pc := 70) (x := (nI (t (101 + x)))) dX7_perform_70 (by omega) (h.2.2.2.2.2.1 _ (by omega)).2 ?_
  refine aw_iconst (pc := 71) dX7_perform_71 iconst_1 ?_
  refine aw_iload_n (pc := 72) (i := 3) dX7_perform_72 rfl rfl ?_
  refine aw_ishl (pc := 73) dX7_perform_73 ?_
  refine aw_top (y := (nI (2 ^ y))) (nI_1shl (by omega)) ?_
  refine aw_iconst (pc := 74) dX7_perform_74 iconst_m1 ?_
  refine aw_ixor (pc := 75) dX7_perform_75 ?_
  refine aw_iand (pc := 76) dX7_perform_76 ?_
  refine aw_top (y := (nI (t (101 + x) ^^^ 2 ^ y))) (nI_clr (Nat.lt_trans (hb _) (by decide)) (by omega) hw0) ?_
  refine ps_X7_spares (pc := 77) dX7_perform_77 (by omega) ?_
  refine aw_goto (pc := 78) (tgt := 134) dX7_perform_78 rfl ?_
  exact aw_vret (pc := 134) dX7_perform_134 rfl (Nat.le_refl _) (Nat.le_refl _) (kk _ (h.up3 h0 h2 hx))
set_option maxHeartbeats 1000000 in
set_option maxRecDepth 20000 in
theorem c7_do3 {G : xG} {d : Nat} {Q : xQ} {b c : Nat → Nat} {t : Nat → Nat} {NM : Nat → Int64} {sn : Option Nat} {sd : Int32} {κ : kS} {R : va_W} {x : Nat} {vb vn : Int32} (h : SRl c sn t sd κ) (hC : CHR G R c t NM) (hw : WT t) (hx : x < 12) (kk : ∀ κ9, SRl c sn (upN t 93 (t 93 ^^^ 2 ^ x)) sd κ9 → Q none (wSt G.2.2.1 b κ9 ++ R)) : MT G MX7_perform (d + 1) 0 0 [.ref (b 12), .int (nI 3), .int (nI x), .int vb, .int vn] (wSt G.2.2.1 b κ ++ R) Q := by
  obtain ⟨hb, h0, h1, h2, hR, hP, hD, hCl, hT⟩ := id hw
  refine mt_start (L := [some (.ref (b 12)), some (.int (nI 3)), some (.int (nI x)), some (.int vb), some (.int vn), none]) rfl (Nat.le_of_ble_eq_true rfl) rfl ?_
  refine aw_iload_n (pc := 0) (i := 1) dX7_perform_0 rfl rfl ?_
  refine aw_tabIn (pc := 1) (tgt := 81) dX7_perform_1 (by decide) (by decide) rfl rfl ?_
  refine aw_aload_n (pc := 81) (i := 0) dX7_perform_81 rfl rfl ?_
  refine aw_iload_n (pc := 82) (i := 2) dX7_perform_82 rfl rfl ?_
  refine cVv (pc := 83) (As := [.int (nI x)]) (rest := []) dX7_perform_83 rfl oc_X7_68 rfl rfl (Nat.le_of_ble_eq_true rfl) rfl rfl ovX7 (Nat.le_refl _) (Nat.le_refl _) (c7_turnRoad h h0 h2 (hb _) (by omega) ?_)
  intro κ3 g3
  refine ⟨rfl, ?_⟩
  refine aw_goto (pc := 86) (tgt := 134) dX7_perform_86 rfl ?_
  exact aw_vret (pc := 134) dX7_perform_134 rfl (Nat.le_refl _) (Nat.le_refl _) (kk _ g3)
set_option maxHeartbeats 1000000 in
set_option maxRecDepth 20000 in
theorem c7_do4 {G : xG} {d : Nat} {Q : xQ} {b c : Nat → Nat} {t : Nat → Nat} {NM : Nat → Int64} {sn : Option Nat} {sd : Int32} {κ : kS} {R : va_W} {x : Nat} {vb vn : Int32} (h : SRl c sn t sd κ) (hC : CHR G R c t NM) (hw : WT t) (hx : x < 12) (kk : ∀ κ9, SRl c sn (upN t 93 (t 93 ^^^ 2 ^ x)) sd κ9 → Q none (wSt G.2.2.1 b κ9 ++ R)) : MT G MX7_perform (d + 1) 0 0 [.ref (b 12), .int (nI 4), .int (nI x), .int vb, .int vn] (wSt G.2.2.1 b κ ++ R) Q := by
  obtain ⟨hb, h0, h1, h2, hR, hP, hD, hCl, hT⟩ := id hw
  refine mt_start (L := [some (.ref (b 12)), some (.int (nI 4)), some (.int (nI x)), some (.int vb), some (.int vn), none]) rfl (Nat.le_of_ble_eq_true rfl) rfl ?_
  refine aw_iload_n (pc := 0) (i := 1) dX7_perform_0 rfl rfl ?_
  refine aw_tabIn (pc := 1) (tgt := 81) dX7_perform_1 (by decide) (by decide) rfl rfl ?_
  refine aw_aload_n (pc := 81) (i := 0) dX7_perform_81 rfl rfl ?_
  refine aw_iload_n (pc := 82) (i := 2) dX7_perform_82 rfl rfl ?_
  refine cVv (pc := 83) (As := [.int (nI x)]) (rest := []) dX7_perform_83 rfl oc_X7_68 rfl rfl (Nat.le_of_ble_eq_true rfl) rfl rfl ovX7 (Nat.le_refl _) (Nat.le_refl _) (c7_turnRoad h h0 h2 (hb _) (by omega) ?_)
  intro κ3 g3
  refine ⟨rfl, ?_⟩
  refine aw_goto (pc := 86) (tgt := 134) dX7_perform_86 rfl ?_
  exact aw_vret (pc := 134) dX7_perform_134 rfl (Nat.le_refl _) (Nat.le_refl _) (kk _ g3)
set_option maxHeartbeats 1000000 in
set_option maxRecDepth 20000 in
theorem c7_do5 {G : xG} {d : Nat} {Q : xQ} {b c : Nat → Nat} {t : Nat → Nat} {NM : Nat → Int64} {sn : Option Nat} {sd : Int32} {κ : kS} {R : va_W} {x y m : Nat} (h : SRl c sn t sd κ) (hC : CHR G R c t NM) (hw : WT t) (hx : x < t 0) (hy : y < t 0) (hxy : ¬ x = y) (hm : m ≤ t (94 + x)) (kk : ∀ κ9, SRl c sn (lendF t x y m) sd κ9 → Q none (wSt G.2.2.1 b κ9 ++ R)) : MT G MX7_perform (d) 0 0 [.ref (b 12), .int (nI 5), .int (nI x), .int (nI y), .int (nI m)] (wSt G.2.2.1 b κ ++ R) Q := by
  obtain ⟨hb, h0, h1, h2, hR, hP, hD, hCl, hT⟩ := id hw
  refine mt_start (L := [some (.ref (b 12)), some (.int (nI 5)), some (.int (nI x)), some (.int (nI y)), some (.int (nI m)), none]) rfl (Nat.le_of_ble_eq_true rfl) rfl ?_
  refine aw_iload_n (pc := 0) (i := 1) dX7_perform_0 rfl rfl ?_
  refine aw_tabIn (pc := 1) (tgt := 89) dX7_perform_1 (by decide) (by decide) rfl rfl ?_
  refine aw_aload_n (pc := 89) (i := 0) dX7_perform_89 rfl rfl ?_
  refine pg_X7_15 (pc := 90) dX7_perform_90 rfl ?_
  refine aw_iload_n (pc := 93) (i := 2) dX7_perform_93 rfl rfl ?_
  refine aw_dup2 (pc := 94) dX7_perform_94 rfl rfl ?_
  refine pl_X7_store (pc := 95) (x := (nI (t (94 + x)))) dX7_perform_95 (by omega) (h.2.2.2.2.2.1 _ (by omega)).1 ?_
  refine aw_iload (pc := 96) dX7_perform_96 rfl ?_
  refine an_sub (pc := 98) dX7_perform_98 hm ?_
  refine ps_X7_store (pc := 99) dX7_perform_99 (by omega) ?_
  refine aw_aload_n (pc := 100) (i := 0) dX7_perform_100 rfl rfl ?_
  refine pg_X7_15 (pc := 101) dX7_perform_101 rfl ?_
  refine aw_iload_n (pc := 104) (i := 3) dX7_perform_104 rfl rfl ?_
  refine aw_dup2 (pc := 105) dX7_perform_105 rfl rfl ?_
  refine pl_X7_store (pc := 106) (x := (nI (t (94 + y)))) dX7_perform_106 (by omega) (Eq.trans (upN_n _ _ _ _ (fun e => hxy e.symm)) (h.2.2.2.2.2.1 _ (by omega)).1) ?_
  refine aw_iload (pc := 107) dX7_perform_107 rfl ?_
  refine an_add (pc := 109) dX7_perform_109 ?_
  refine ps_X7_store (pc := 110) dX7_perform_110 (by omega) ?_
  refine aw_goto (pc := 111) (tgt := 134) dX7_perform_111 rfl ?_
  exact aw_vret (pc := 134) dX7_perform_134 rfl (Nat.le_refl _) (Nat.le_refl _) (kk _ (by have g := (h.up2 (v := t (94 + x) - m) h0 h2 hx).up2 (x := y) (v := t (94 + y) + m) (by rw [upN_n _ _ _ _ (by omega)]; exact h0) (by rw [upN_n _ _ _ _ (by omega)]; exact h2) (by rw [upN_n _ _ _ _ (by omega)]; exact hy); exact g))
set_option maxHeartbeats 1000000 in
set_option maxRecDepth 20000 in
theorem days_loop {G : xG} {d : Nat} {Q : xQ} {b c : Nat → Nat} {NM : Nat → Int64} {sn : Option Nat} {sd : Int32} {R : va_W} {B m : Nat} {va vb : Int32} (hB : 500 ≤ B) (hm : m < 2 ^ 31) : ∀ (z i : Nat) (t : Nat → Nat) (κ : kS), i + z = m → t 91 + z ≤ 400 → WV t B → CHR G R c t NM → SRl c sn t sd κ → (∀ κ9, SRl c sn (goG z t).2 sd κ9 → Q none (wSt G.2.2.1 b κ9 ++ R)) → AW G MX7_perform (d + 3) 0 0 Q 117 [some (.ref (b 12)), some (.int (nI 6)), some (.int va), some (.int vb), some (.int (nI m)), some (.int (nI i))] [] (wSt G.2.2.1 b κ ++ R) 0 0 := by
  intro z
  induction z with
  | zero =>
    intro i t κ hi h4 H hC h kk
    refine aw_iload (pc := 117) dX7_perform_117 rfl ?_
    refine aw_iload (pc := 119) dX7_perform_119 rfl ?_
    refine an_icmp_ge (pc := 121) (tgt := 134) dX7_perform_121 rfl (by omega) (by omega) (fun h121 => ?_) (fun h121 => ?_)
    · -- 134
      exact aw_vret (pc := 134) dX7_perform_134 rfl (Nat.le_refl _) (Nat.le_refl _) (kk _ h)
    · -- 124
      exfalso; omega
  | succ z ih =>
    intro i t κ hi h4 H hC h kk
    refine aw_iload (pc := 117) dX7_perform_117 rfl ?_
    refine aw_iload (pc := 119) dX7_perform_119 rfl ?_
    refine an_icmp_ge (pc := 121) (tgt := 134) dX7_perform_121 rfl (by omega) (by omega) (fun h121 => ?_) (fun h121 => ?_)
    · -- 134
      exfalso; omega
    · -- 124
      refine aw_aload_n (pc := 124) (i := 0) dX7_perform_124 rfl rfl ?_
      refine cVv (pc := 125) (As := []) (rest := []) dX7_perform_125 rfl oc_X7_72 rfl rfl (Nat.le_of_ble_eq_true rfl) rfl rfl ovX7 (Nat.le_refl _) (Nat.le_refl _) (c7_goDay h hC H.1.1 ?_)
      intro κ1 g1
      refine ⟨rfl, ?_⟩
      refine an_inc (pc := 128) (z := 1) dX7_perform_128 rfl (Nat.le_of_ble_eq_true rfl) rfl ?_
      refine aw_goto (pc := 131) (tgt := 117) dX7_perform_131 rfl ?_
      have hk := WT_DK H.1.1
      refine ih (i + 1) (dayF t) κ1 (by omega) (by rw [dayF_91 hk]; omega) (WV_day H hB (by omega)) (hC.to (fun j hj => dayF_keep hk (by omega)) H.1.1.2.1 H.1.1.2.2.1 H.1.1.2.2.2.1) g1 ?_
      rw [goG, if_pos (by omega)] at kk
      exact kk
set_option maxHeartbeats 1000000 in
set_option maxRecDepth 20000 in
theorem c7_do6 {G : xG} {d : Nat} {Q : xQ} {b c : Nat → Nat} {t : Nat → Nat} {NM : Nat → Int64} {sn : Option Nat} {sd : Int32} {κ : kS} {R : va_W} {m B : Nat} {va vb : Int32} (h : SRl c sn t sd κ) (hC : CHR G R c t NM) (hw : WT t) (hB : 500 ≤ B) (H : WV t B) (hm : t 91 + m ≤ 400) (kk : ∀ κ9, SRl c sn ((goG m t).2) sd κ9 → Q none (wSt G.2.2.1 b κ9 ++ R)) : MT G MX7_perform (d + 3) 0 0 [.ref (b 12), .int (nI 6), .int va, .int vb, .int (nI m)] (wSt G.2.2.1 b κ ++ R) Q := by
  obtain ⟨hb, h0, h1, h2, hR, hP, hD, hCl, hT⟩ := id hw
  refine mt_start (L := [some (.ref (b 12)), some (.int (nI 6)), some (.int va), some (.int vb), some (.int (nI m)), none]) rfl (Nat.le_of_ble_eq_true rfl) rfl ?_
  refine aw_iload_n (pc := 0) (i := 1) dX7_perform_0 rfl rfl ?_
  refine aw_tabOut (pc := 1) (tgt := 114) dX7_perform_1 (by decide) rfl ?_
  refine aw_iconst (pc := 114) dX7_perform_114 iconst_0 ?_
  refine aw_istore (pc := 115) (i := 5) dX7_perform_115 (Nat.le_of_ble_eq_true rfl) rfl ?_
  exact days_loop hB (by omega) m 0 t κ (by omega) hm H hC h kk
