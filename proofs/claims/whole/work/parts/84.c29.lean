set_option maxHeartbeats 1000000 in
set_option maxRecDepth 20000 in
theorem c6_cmp {G : xG} {d : Nat} {Q : xQ} {x : Nat → Nat} {κX : kS} {R : va_W} {k v y z : Nat} (hk : k < 40) (hy : κX.2.1 3 k = nI y) (hz : κX.2.1 4 k = nI z) (hy9 : y < 1024) (hz9 : z < 1024) (hv : v < 2 ^ 31) (kk : Q (some (.int (bI (cmpB y v z)))) (wSe G.2.2.1 x κX ++ R)) : MT G MX6_compare (d) 0 0 [.ref (x 8), .int (nI v), .int (nI k)] (wSe G.2.2.1 x κX ++ R) Q := by
  refine mt_start (L := [some (.ref (x 8)), some (.int (nI v)), some (.int (nI k))]) rfl (Nat.le_of_ble_eq_true rfl) rfl ?_
  refine aw_aload_n (pc := 0) (i := 0) dX6_compare_0 rfl rfl ?_
  refine pg_X6_17 (pc := 1) dX6_compare_1 rfl ?_
  refine aw_iload_n (pc := 4) (i := 2) dX6_compare_4 rfl rfl ?_
  refine pl_X6_sign (pc := 5) (x := (nI y)) dX6_compare_5 (by omega) hy ?_
  refine aw_bipush (pc := 6) dX6_compare_6 bipush_60 ?_
  refine an_icmp_ne (pc := 8) (tgt := 27) dX6_compare_8 rfl (by omega) (by decide) (fun h8 => ?_) (fun h8 => ?_)
  · -- 27
    refine aw_aload_n (pc := 27) (i := 0) dX6_compare_27 rfl rfl ?_
    refine pg_X6_17 (pc := 28) dX6_compare_28 rfl ?_
    refine aw_iload_n (pc := 31) (i := 2) dX6_compare_31 rfl rfl ?_
    refine pl_X6_sign (pc := 32) (x := (nI y)) dX6_compare_32 (by omega) hy ?_
    refine aw_bipush (pc := 33) dX6_compare_33 bipush_61 ?_
    refine an_icmp_ne (pc := 35) (tgt := 56) dX6_compare_35 rfl (by omega) (by decide) (fun h35 => ?_) (fun h35 => ?_)
    · -- 56
      refine aw_iload_n (pc := 56) (i := 1) dX6_compare_56 rfl rfl ?_
      refine aw_aload_n (pc := 57) (i := 0) dX6_compare_57 rfl rfl ?_
      refine pg_X6_21 (pc := 58) dX6_compare_58 rfl ?_
      refine aw_iload_n (pc := 61) (i := 2) dX6_compare_61 rfl rfl ?_
      refine pl_X6_value (pc := 62) (x := (nI z)) dX6_compare_62 (by omega) hz ?_
      refine an_icmp_le (pc := 63) (tgt := 70) dX6_compare_63 rfl (by omega) (by omega) (fun h63 => ?_) (fun h63 => ?_)
      · -- 70
        refine aw_iconst (pc := 70) dX6_compare_70 iconst_0 ?_
        refine ab_ret0 (pc := 71) dX6_compare_71 rfl (Nat.le_refl _) (Nat.le_refl _) ?_
        rw [show cmpB y v z = false by unfold cmpB; rw [if_neg h8, if_neg h35]; exact decide_eq_false (by omega)] at kk
        exact kk
      · -- 66
        refine aw_iconst (pc := 66) dX6_compare_66 iconst_1 ?_
        refine aw_goto (pc := 67) (tgt := 71) dX6_compare_67 rfl ?_
        refine ab_ret1 (pc := 71) dX6_compare_71 rfl (Nat.le_refl _) (Nat.le_refl _) ?_
        rw [show cmpB y v z = true by unfold cmpB; rw [if_neg h8, if_neg h35]; exact decide_eq_true (by omega)] at kk
        exact kk
    · -- 38
      refine aw_iload_n (pc := 38) (i := 1) dX6_compare_38 rfl rfl ?_
      refine aw_aload_n (pc := 39) (i := 0) dX6_compare_39 rfl rfl ?_
      refine pg_X6_21 (pc := 40) dX6_compare_40 rfl ?_
      refine aw_iload_n (pc := 43) (i := 2) dX6_compare_43 rfl rfl ?_
      refine pl_X6_value (pc := 44) (x := (nI z)) dX6_compare_44 (by omega) hz ?_
      refine an_icmp_ne (pc := 45) (tgt := 52) dX6_compare_45 rfl (by omega) (by omega) (fun h45 => ?_) (fun h45 => ?_)
      · -- 52
        refine aw_iconst (pc := 52) dX6_compare_52 iconst_0 ?_
        refine aw_goto (pc := 53) (tgt := 71) dX6_compare_53 rfl ?_
        refine ab_ret0 (pc := 71) dX6_compare_71 rfl (Nat.le_refl _) (Nat.le_refl _) ?_
        rw [show cmpB y v z = false by unfold cmpB; rw [if_neg h8, if_pos h35]; exact decide_eq_false h45] at kk
        exact kk
      · -- 48
        refine aw_iconst (pc := 48) dX6_compare_48 iconst_1 ?_
        refine aw_goto (pc := 49) (tgt := 71) dX6_compare_49 rfl ?_
        refine ab_ret1 (pc := 71) dX6_compare_71 rfl (Nat.le_refl _) (Nat.le_refl _) ?_
        rw [show cmpB y v z = true by unfold cmpB; rw [if_neg h8, if_pos h35]; exact decide_eq_true h45] at kk
        exact kk
  · -- 11
    refine aw_iload_n (pc := 11) (i := 1) dX6_compare_11 rfl rfl ?_
    refine aw_aload_n (pc := 12) (i := 0) dX6_compare_12 rfl rfl ?_
    refine pg_X6_21 (pc := 13) dX6_compare_13 rfl ?_
    refine aw_iload_n (pc := 16) (i := 2) dX6_compare_16 rfl rfl ?_
    refine pl_X6_value (pc := 17) (x := (nI z)) dX6_compare_17 (by omega) hz ?_
    refine an_icmp_ge (pc := 18) (tgt := 25) dX6_compare_18 rfl (by omega) (by omega) (fun h18 => ?_) (fun h18 => ?_)
    · -- 25
      refine aw_iconst (pc := 25) dX6_compare_25 iconst_0 ?_
      refine ab_ret0 (pc := 26) dX6_compare_26 rfl (Nat.le_refl _) (Nat.le_refl _) ?_
      rw [show cmpB y v z = false by unfold cmpB; rw [if_pos h8]; exact decide_eq_false (by omega)] at kk
      exact kk
    · -- 21
      refine aw_iconst (pc := 21) dX6_compare_21 iconst_1 ?_
      refine aw_goto (pc := 22) (tgt := 26) dX6_compare_22 rfl ?_
      refine ab_ret1 (pc := 26) dX6_compare_26 rfl (Nat.le_refl _) (Nat.le_refl _) ?_
      rw [show cmpB y v z = true by unfold cmpB; rw [if_pos h8]; exact decide_eq_true h18] at kk
      exact kk
set_option maxHeartbeats 1000000 in
set_option maxRecDepth 20000 in
theorem c6_holds {G : xG} {d : Nat} {Q : xQ} {x ad b c : Nat → Nat} {tw ts : Nat} {κX : kS} {R : va_W} {t : Nat → Nat} {NM : Nat → Int64} {sn : Option Nat} {p k w y z : Nat} (hE : EB ad tw ts G) (hNB : NB G) (hS : STR G R b c sn t) (hC : CHR G R c t NM) (hw : WT t) (hk : k < 40) (hy : κX.2.1 3 k = nI y) (hz : κX.2.1 4 k = nI z) (hy9 : y < 1024) (hz9 : z < 1024) (hwh : κX.2.2.2 2 k = Option.map ad (some w)) (hw1 : 15 ≤ w) (hw2 : w < 24) (hw7 : cwd w = 4 → z < 7) (hp : p < t 2) (kk : Q (some (.int (bI (lfB t p (cwd w) y z)))) (wSe G.2.2.1 x κX ++ R)) : MT G MX6_holds (d + 4) 0 0 [.ref (x 8), .ref (b 12), .int (nI p), .int (nI k)] (wSe G.2.2.1 x κX ++ R) Q := by
  have hS9 : STR G (wSe G.2.2.1 x κX ++ R) b c sn t := hS.sub (fun x hx => List.mem_append_right _ hx)
  have hC9 : CHR G (wSe G.2.2.1 x κX ++ R) c t NM := hC.sub (fun x hx => List.mem_append_right _ hx)
  obtain ⟨sd, hSo, hS2, hS3, hS6, hS7, hS8, hS9a, hS10⟩ := id hS9
  obtain ⟨hb, h0, h1, h2, hR, hP, hD, hCl, hT⟩ := id hw
  have hq := hP p hp
  have hcl : couldF t p < 2 ^ 31 := by have := orF_lt (fun l => decide (whyX t p l = 0)) (t 0); have h9 : 2 ^ t 0 ≤ 2 ^ 7 := Nat.pow_le_pow_right (by decide) h0; unfold couldF; omega
  refine mt_start (L := [some (.ref (x 8)), some (.ref (b 12)), some (.int (nI p)), some (.int (nI k)), none]) rfl (Nat.le_of_ble_eq_true rfl) rfl ?_
  refine aw_aload_n (pc := 0) (i := 0) dX6_holds_0 rfl rfl ?_
  refine pg_X6_13 (pc := 1) dX6_holds_1 rfl ?_
  refine aw_iload_n (pc := 4) (i := 3) dX6_holds_4 rfl rfl ?_
  refine pl_X6_what (pc := 5) (x := Option.map ad (some w)) dX6_holds_5 (by omega) hwh ?_
  refine aw_qstore (pc := 6) (i := 4) dX6_holds_6 (Nat.le_of_ble_eq_true rfl) rfl ?_
  refine aw_qload (pc := 8) dX6_holds_8 rfl ?_
  refine aw_wnonnull (ad := ad) (pc := 10) (tgt := 15) dX6_holds_10 rfl (fun h10 => ?_) (fun h10 => ?_)
  · -- 15
    refine aw_gsm (pc := 15) dX6_holds_15 rfl hE gs_X6_117 ?_
    refine aw_qload (pc := 18) dX6_holds_18 rfl ?_
    refine co_X6 (pc := 20) dX6_holds_20 rfl hE (by omega) (Nat.le_of_ble_eq_true rfl) (Nat.le_refl _) (Nat.le_refl _) ?_
    refine aw_tm (pc := 23) dX6_holds_23 hE (by omega) ?_
    rcases (show w = 15 ∨ w = 16 ∨ w = 17 ∨ w = 18 ∨ w = 19 ∨ w = 20 ∨ w = 21 ∨ w = 22 ∨ w = 23 by omega) with rfl | rfl | rfl | rfl | rfl | rfl | rfl | rfl | rfl
    · -- 15
      refine aw_tabIn (pc := 24) (tgt := 72) dX6_holds_24 (by decide) (by decide) rfl rfl ?_
      refine aw_aload_n (pc := 72) (i := 1) dX6_holds_72 rfl rfl ?_
      refine aw_iload_n (pc := 73) (i := 2) dX6_holds_73 rfl rfl ?_
      refine cVi (pc := 74) (As := [.int (nI p)]) (rest := []) dX6_holds_74 rfl oc_X6_146 rfl rfl (Nat.le_of_ble_eq_true rfl) rfl rfl hSo (Nat.le_refl _) (Nat.le_refl _) (c7_isHome hS9 hC9 hw hp ⟨_, rfl, ?_⟩)
      exact ab_ret (pc := 77) dX6_holds_77 rfl (Nat.le_refl _) (Nat.le_refl _) (kk)
    · -- 16
      refine aw_tabIn (pc := 24) (tgt := 78) dX6_holds_24 (by decide) (by decide) rfl rfl ?_
      refine aw_aload_n (pc := 78) (i := 1) dX6_holds_78 rfl rfl ?_
      refine aw_iload_n (pc := 79) (i := 2) dX6_holds_79 rfl rfl ?_
      refine cVi (pc := 80) (As := [.int (nI p)]) (rest := []) dX6_holds_80 rfl oc_X6_149 rfl rfl (Nat.le_of_ble_eq_true rfl) rfl rfl hSo (Nat.le_refl _) (Nat.le_refl _) (c7_whither hNB hS9 hC9 hw hp ⟨_, rfl, ?_⟩)
      refine an_if_ne (pc := 83) (tgt := 90) dX6_holds_83 rfl hcl (fun h83 => ?_) (fun h83 => ?_)
      · -- 90
        refine aw_iconst (pc := 90) dX6_holds_90 iconst_0 ?_
        refine ab_ret0 (pc := 91) dX6_holds_91 rfl (Nat.le_refl _) (Nat.le_refl _) ?_
        rw [show lfB t p (cwd 16) y z = false from decide_eq_false (Nat.ne_of_gt (show 0 < couldF t p from h83))] at kk
        exact kk
      · -- 86
        refine aw_iconst (pc := 86) dX6_holds_86 iconst_1 ?_
        refine aw_goto (pc := 87) (tgt := 91) dX6_holds_87 rfl ?_
        refine ab_ret1 (pc := 91) dX6_holds_91 rfl (Nat.le_refl _) (Nat.le_refl _) ?_
        rw [show lfB t p (cwd 16) y z = true from decide_eq_true h83] at kk
        exact kk
    · -- 17
      refine aw_tabIn (pc := 24) (tgt := 92) dX6_holds_24 (by decide) (by decide) rfl rfl ?_
      refine aw_aload_n (pc := 92) (i := 1) dX6_holds_92 rfl rfl ?_
      refine av_get (pc := 93) (x := .ref (b 6)) dX6_holds_93 rfl og_X6_153 rfl hSo rfl ?_
      refine aw_iload_n (pc := 96) (i := 2) dX6_holds_96 rfl rfl ?_
      refine av_iald (pc := 97) (x := (nI (t (108 + p)))) dX6_holds_97 hS6 (by omega) (by decide) rfl ?_
      refine aw_aload_n (pc := 98) (i := 0) dX6_holds_98 rfl rfl ?_
      refine pg_X6_21 (pc := 99) dX6_holds_99 rfl ?_
      refine aw_iload_n (pc := 102) (i := 3) dX6_holds_102 rfl rfl ?_
      refine pl_X6_value (pc := 103) (x := (nI z)) dX6_holds_103 (by omega) hz ?_
      refine an_icmp_ne (pc := 104) (tgt := 111) dX6_holds_104 rfl (Nat.lt_trans (hb _) (by decide)) (by omega) (fun h104 => ?_) (fun h104 => ?_)
      · -- 111
        refine aw_iconst (pc := 111) dX6_holds_111 iconst_0 ?_
        refine ab_ret0 (pc := 112) dX6_holds_112 rfl (Nat.le_refl _) (Nat.le_refl _) ?_
        rw [show lfB t p (cwd 17) y z = false from decide_eq_false (by omega)] at kk
        exact kk
      · -- 107
        refine aw_iconst (pc := 107) dX6_holds_107 iconst_1 ?_
        refine aw_goto (pc := 108) (tgt := 112) dX6_holds_108 rfl ?_
        refine ab_ret1 (pc := 112) dX6_holds_112 rfl (Nat.le_refl _) (Nat.le_refl _) ?_
        rw [show lfB t p (cwd 17) y z = true from decide_eq_true h104] at kk
        exact kk
    · -- 18
      refine aw_tabIn (pc := 24) (tgt := 113) dX6_holds_24 (by decide) (by decide) rfl rfl ?_
      refine aw_aload_n (pc := 113) (i := 1) dX6_holds_113 rfl rfl ?_
      refine av_get (pc := 114) (x := .ref (c 13)) dX6_holds_114 rfl og_X6_130 rfl hSo rfl ?_
      refine av_get (pc := 117) (x := .ref (c 12)) dX6_holds_117 rfl og_X6_156 rfl hC9.ov rfl ?_
      refine aw_iload_n (pc := 120) (i := 2) dX6_holds_120 rfl rfl ?_
      refine av_iald (pc := 121) (x := (nI (t (79 + p)))) dX6_holds_121 hC9.home (by omega) (by decide) rfl ?_
      refine aw_aload_n (pc := 122) (i := 0) dX6_holds_122 rfl rfl ?_
      refine pg_X6_21 (pc := 123) dX6_holds_123 rfl ?_
      refine aw_iload_n (pc := 126) (i := 3) dX6_holds_126 rfl rfl ?_
      refine pl_X6_value (pc := 127) (x := (nI z)) dX6_holds_127 (by omega) hz ?_
      refine an_icmp_ne (pc := 128) (tgt := 135) dX6_holds_128 rfl (Nat.lt_trans (hb _) (by decide)) (by omega) (fun h128 => ?_) (fun h128 => ?_)
      · -- 135
        refine aw_iconst (pc := 135) dX6_holds_135 iconst_0 ?_
        refine ab_ret0 (pc := 136) dX6_holds_136 rfl (Nat.le_refl _) (Nat.le_refl _) ?_
        rw [show lfB t p (cwd 18) y z = false from decide_eq_false (by omega)] at kk
        exact kk
      · -- 131
        refine aw_iconst (pc := 131) dX6_holds_131 iconst_1 ?_
        refine aw_goto (pc := 132) (tgt := 136) dX6_holds_132 rfl ?_
        refine ab_ret1 (pc := 136) dX6_holds_136 rfl (Nat.le_refl _) (Nat.le_refl _) ?_
        rw [show lfB t p (cwd 18) y z = true from decide_eq_true h128] at kk
        exact kk
    · -- 19
      refine aw_tabIn (pc := 24) (tgt := 137) dX6_holds_24 (by decide) (by decide) rfl rfl ?_
      refine aw_aload_n (pc := 137) (i := 1) dX6_holds_137 rfl rfl ?_
      refine av_get (pc := 138) (x := .ref (b 3)) dX6_holds_138 rfl og_X6_159 rfl hSo rfl ?_
      refine aw_aload_n (pc := 141) (i := 1) dX6_holds_141 rfl rfl ?_
      refine av_get (pc := 142) (x := .ref (c 13)) dX6_holds_142 rfl og_X6_130 rfl hSo rfl ?_
      refine av_get (pc := 145) (x := .ref (c 12)) dX6_holds_145 rfl og_X6_156 rfl hC9.ov rfl ?_
      refine aw_iload_n (pc := 148) (i := 2) dX6_holds_148 rfl rfl ?_
      refine av_iald (pc := 149) (x := (nI (t (79 + p)))) dX6_holds_149 hC9.home (by omega) (by decide) rfl ?_
      refine av_iald (pc := 150) (x := (nI (t (101 + (t (79 + p)))))) dX6_holds_150 hS3 (by omega) (by decide) rfl ?_
      refine aw_aload_n (pc := 151) (i := 0) dX6_holds_151 rfl rfl ?_
      refine pg_X6_21 (pc := 152) dX6_holds_152 rfl ?_
      refine aw_iload_n (pc := 155) (i := 3) dX6_holds_155 rfl rfl ?_
      refine pl_X6_value (pc := 156) (x := (nI z)) dX6_holds_156 (by omega) hz ?_
      refine cNi (pc := 157) (As := [.int (nI (t (101 + (t (79 + p))))), .int (nI z)]) (rest := []) dX6_holds_157 rfl oc_X6_162 hNB.x6 rfl rfl (Nat.le_of_ble_eq_true rfl) (Nat.le_refl _) (Nat.le_refl _) (c_hasBit (Nat.lt_trans (hb _) (by decide)) (by have := hw7 rfl; omega) ⟨_, rfl, ?_⟩)
      exact ab_ret (pc := 160) dX6_holds_160 rfl (Nat.le_refl _) (Nat.le_refl _) (kk)
    · -- 20
      refine aw_tabIn (pc := 24) (tgt := 161) dX6_holds_24 (by decide) (by decide) rfl rfl ?_
      refine aw_aload_n (pc := 161) (i := 0) dX6_holds_161 rfl rfl ?_
      refine aw_aload_n (pc := 162) (i := 1) dX6_holds_162 rfl rfl ?_
      refine av_get (pc := 163) (x := .ref (b 7)) dX6_holds_163 rfl og_X6_166 rfl hSo rfl ?_
      refine aw_iload_n (pc := 166) (i := 2) dX6_holds_166 rfl rfl ?_
      refine av_iald (pc := 167) (x := (nI (t (114 + p)))) dX6_holds_167 hS7 (by omega) (by decide) rfl ?_
      refine aw_iload_n (pc := 168) (i := 3) dX6_holds_168 rfl rfl ?_
      refine cVi (pc := 169) (As := [.int (nI (t (114 + p))), .int (nI k)]) (rest := []) dX6_holds_169 rfl oc_X6_169 rfl rfl (Nat.le_of_ble_eq_true rfl) rfl rfl ovX6 (Nat.le_refl _) (Nat.le_refl _) (c6_cmp hk hy hz hy9 hz9 (Nat.lt_trans (hb _) (by decide)) ⟨_, rfl, ?_⟩)
      exact ab_ret (pc := 172) dX6_holds_172 rfl (Nat.le_refl _) (Nat.le_refl _) (kk)
    · -- 21
      refine aw_tabIn (pc := 24) (tgt := 173) dX6_holds_24 (by decide) (by decide) rfl rfl ?_
      refine aw_aload_n (pc := 173) (i := 0) dX6_holds_173 rfl rfl ?_
      refine aw_aload_n (pc := 174) (i := 1) dX6_holds_174 rfl rfl ?_
      refine av_get (pc := 175) (x := .ref (b 8)) dX6_holds_175 rfl og_X6_172 rfl hSo rfl ?_
      refine aw_iload_n (pc := 178) (i := 2) dX6_holds_178 rfl rfl ?_
      refine av_iald (pc := 179) (x := (nI (t (120 + p)))) dX6_holds_179 hS8 (by omega) (by decide) rfl ?_
      refine aw_iload_n (pc := 180) (i := 3) dX6_holds_180 rfl rfl ?_
      refine cVi (pc := 181) (As := [.int (nI (t (120 + p))), .int (nI k)]) (rest := []) dX6_holds_181 rfl oc_X6_169 rfl rfl (Nat.le_of_ble_eq_true rfl) rfl rfl ovX6 (Nat.le_refl _) (Nat.le_refl _) (c6_cmp hk hy hz hy9 hz9 (Nat.lt_trans (hb _) (by decide)) ⟨_, rfl, ?_⟩)
      exact ab_ret (pc := 184) dX6_holds_184 rfl (Nat.le_refl _) (Nat.le_refl _) (kk)
    · -- 22
      refine aw_tabIn (pc := 24) (tgt := 185) dX6_holds_24 (by decide) (by decide) rfl rfl ?_
      refine aw_aload_n (pc := 185) (i := 0) dX6_holds_185 rfl rfl ?_
      refine aw_aload_n (pc := 186) (i := 1) dX6_holds_186 rfl rfl ?_
      refine av_get (pc := 187) (x := .ref (b 10)) dX6_holds_187 rfl og_X6_175 rfl hSo rfl ?_
      refine aw_iload_n (pc := 190) (i := 2) dX6_holds_190 rfl rfl ?_
      refine av_iald (pc := 191) (x := (nI (t (132 + p)))) dX6_holds_191 hS10 (by omega) (by decide) rfl ?_
      refine aw_iload_n (pc := 192) (i := 3) dX6_holds_192 rfl rfl ?_
      refine cVi (pc := 193) (As := [.int (nI (t (132 + p))), .int (nI k)]) (rest := []) dX6_holds_193 rfl oc_X6_169 rfl rfl (Nat.le_of_ble_eq_true rfl) rfl rfl ovX6 (Nat.le_refl _) (Nat.le_refl _) (c6_cmp hk hy hz hy9 hz9 (Nat.lt_trans (hb _) (by decide)) ⟨_, rfl, ?_⟩)
      exact ab_ret (pc := 196) dX6_holds_196 rfl (Nat.le_refl _) (Nat.le_refl _) (kk)
    · -- 23
      refine aw_tabOut (pc := 24) (tgt := 197) dX6_holds_24 (by decide) rfl ?_
      refine aw_aload_n (pc := 197) (i := 0) dX6_holds_197 rfl rfl ?_
      refine aw_iload_n (pc := 198) (i := 2) dX6_holds_198 rfl rfl ?_
      refine aw_iload_n (pc := 199) (i := 3) dX6_holds_199 rfl rfl ?_
      refine cVi (pc := 200) (As := [.int (nI p), .int (nI k)]) (rest := []) dX6_holds_200 rfl oc_X6_169 rfl rfl (Nat.le_of_ble_eq_true rfl) rfl rfl ovX6 (Nat.le_refl _) (Nat.le_refl _) (c6_cmp hk hy hz hy9 hz9 (by omega) ⟨_, rfl, ?_⟩)
      exact ab_ret (pc := 203) dX6_holds_203 rfl (Nat.le_refl _) (Nat.le_refl _) (kk)
  · -- 13
    exact absurd h10 (fun e => by cases e)
set_option maxHeartbeats 1000000 in
set_option maxRecDepth 20000 in
theorem by_loop {G : xG} {d : Nat} {Q : xQ} {x ad b c : Nat → Nat} {tw ts : Nat} {κX : kS} {R : va_W} {t : Nat → Nat} {NM : Nat → Int64} {sn : Option Nat} {k w y z : Nat} (hE : EB ad tw ts G) (hNB : NB G) (hS : STR G R b c sn t) (hC : CHR G R c t NM) (hw : WT t) (hk : k < 40) (hy : κX.2.1 3 k = nI y) (hz : κX.2.1 4 k = nI z) (hy9 : y < 1024) (hz9 : z < 1024) (hwh : κX.2.2.2 2 k = Option.map ad (some w)) (hw1 : 15 ≤ w) (hw2 : w < 24) (hw7 : cwd w = 4 → z < 7) (kk : Q (some (.int (nI (orF (fun q => lfB t q (cwd w) y z) (t 2))))) (wSe G.2.2.1 x κX ++ R)) : ∀ (n i : Nat), i + n = t 2 → AW G MX6_personsBy (d + 5) 0 0 Q 5 [some (.ref (x 8)), some (.ref (b 12)), some (.int (nI k)), some (.int (nI (orF (fun q => lfB t q (cwd w) y z) i))), some (.int (nI i))] [] (wSe G.2.2.1 x κX ++ R) 0 0 := by
  have hS9 : STR G (wSe G.2.2.1 x κX ++ R) b c sn t := hS.sub (fun x hx => List.mem_append_right _ hx)
  have hC9 : CHR G (wSe G.2.2.1 x κX ++ R) c t NM := hC.sub (fun x hx => List.mem_append_right _ hx)
  obtain ⟨sd, hSo, hS2, hS3, hS6, hS7, hS8, hS9a, hS10⟩ := id hS9
  obtain ⟨hb, h0, h1, h2, hR, hP, hD, hCl, hT⟩ := id hw
  intro n
  induction n with
  | zero =>
    intro i hi
    have hu := orF_lt (fun q => lfB t q (cwd w) y z) i
    refine aw_iload (pc := 5) dX6_personsBy_5 rfl ?_
    refine aw_aload_n (pc := 7) (i := 1) dX6_personsBy_7 rfl rfl ?_
    refine av_get (pc := 8) (x := .ref (c 13)) dX6_personsBy_8 rfl og_X6_130 rfl hSo rfl ?_
    refine av_get (pc := 11) (x := .int (nI (t 2))) dX6_personsBy_11 rfl og_X6_133 rfl hC9.ov rfl ?_
    refine an_icmp_ge (pc := 14) (tgt := 41) dX6_personsBy_14 rfl (by omega) (Nat.lt_trans (hb _) (by decide)) (fun h14 => ?_) (fun h14 => ?_)
    · -- 41
      refine aw_iload_n (pc := 41) (i := 3) dX6_personsBy_41 rfl rfl ?_
      exact aw_iret (pc := 42) dX6_personsBy_42 rfl (Nat.le_refl _) (Nat.le_refl _) (by have e : i = t 2 := (by omega); rw [← e] at kk; exact kk)
    · -- 17
      exfalso; omega
  | succ n ih =>
    intro i hi
    have hu := orF_lt (fun q => lfB t q (cwd w) y z) i
    have hu2 : orF (fun q => lfB t q (cwd w) y z) i < 2 ^ 6 := Nat.lt_of_lt_of_le hu (Nat.pow_le_pow_right (by decide) (by omega))
    have hi2 : 2 ^ i < 2 ^ 6 := Nat.pow_lt_pow_right (by decide) (by omega)
    have hs : orF (fun q => lfB t q (cwd w) y z) (i + 1) = if (fun q => lfB t q (cwd w) y z) i = true then orF (fun q => lfB t q (cwd w) y z) i ||| 2 ^ i else orF (fun q => lfB t q (cwd w) y z) i := rfl
    generalize orF (fun q => lfB t q (cwd w) y z) i = u at *
    refine aw_iload (pc := 5) dX6_personsBy_5 rfl ?_
    refine aw_aload_n (pc := 7) (i := 1) dX6_personsBy_7 rfl rfl ?_
    refine av_get (pc := 8) (x := .ref (c 13)) dX6_personsBy_8 rfl og_X6_130 rfl hSo rfl ?_
    refine av_get (pc := 11) (x := .int (nI (t 2))) dX6_personsBy_11 rfl og_X6_133 rfl hC9.ov rfl ?_
    refine an_icmp_ge (pc := 14) (tgt := 41) dX6_personsBy_14 rfl (by omega) (Nat.lt_trans (hb _) (by decide)) (fun h14 => ?_) (fun h14 => ?_)
    · -- 41
      exfalso; omega
    · -- 17
      refine aw_aload_n (pc := 17) (i := 0) dX6_personsBy_17 rfl rfl ?_
      refine aw_aload_n (pc := 18) (i := 1) dX6_personsBy_18 rfl rfl ?_
      refine aw_iload (pc := 19) dX6_personsBy_19 rfl ?_
      refine aw_iload_n (pc := 21) (i := 2) dX6_personsBy_21 rfl rfl ?_
      refine cVi (pc := 22) (As := [.ref (b 12), .int (nI i), .int (nI k)]) (rest := []) dX6_personsBy_22 rfl oc_X6_142 rfl rfl (Nat.le_of_ble_eq_true rfl) rfl rfl ovX6 (Nat.le_refl _) (Nat.le_refl _) (c6_holds hE hNB hS hC hw hk hy hz hy9 hz9 hwh hw1 hw2 hw7 (by omega) ⟨_, rfl, ?_⟩)
      refine ab_if_eq (pc := 25) (tgt := 35) dX6_personsBy_25 rfl (fun h25 => ?_) (fun h25 => ?_)
      · -- 35
        refine an_inc (pc := 35) (z := 1) dX6_personsBy_35 rfl (Nat.le_of_ble_eq_true rfl) rfl ?_
        refine aw_goto (pc := 38) (tgt := 5) dX6_personsBy_38 rfl ?_
        refine aw_L (L9 := [some (.ref (x 8)), some (.ref (b 12)), some (.int (nI k)), some (.int (nI (orF (fun q => lfB t q (cwd w) y z) (i + 1)))), some (.int (nI (i + 1)))]) (by rw [hs, if_neg (fun e => absurd (h25.symm.trans e) (by decide))]; rfl) ?_
        exact ih (i + 1) (by omega)
      · -- 28
        refine aw_iload_n (pc := 28) (i := 3) dX6_personsBy_28 rfl rfl ?_
        refine aw_iconst (pc := 29) dX6_personsBy_29 iconst_1 ?_
        refine aw_iload (pc := 30) dX6_personsBy_30 rfl ?_
        refine aw_ishl (pc := 32) dX6_personsBy_32 ?_
        refine aw_top (y := (nI (2 ^ i))) (nI_1shl (by omega)) ?_
        refine aw_ior (pc := 33) dX6_personsBy_33 ?_
        refine aw_top (y := (nI (u ||| 2 ^ i))) (nI_or _ _ (by omega) (by omega)) ?_
        refine aw_istore_n (pc := 34) (i := 3) dX6_personsBy_34 rfl (Nat.le_of_ble_eq_true rfl) rfl ?_
        refine an_inc (pc := 35) (z := 1) dX6_personsBy_35 rfl (Nat.le_of_ble_eq_true rfl) rfl ?_
        refine aw_goto (pc := 38) (tgt := 5) dX6_personsBy_38 rfl ?_
        refine aw_L (L9 := [some (.ref (x 8)), some (.ref (b 12)), some (.int (nI k)), some (.int (nI (orF (fun q => lfB t q (cwd w) y z) (i + 1)))), some (.int (nI (i + 1)))]) (by rw [hs, if_pos h25]; rfl) ?_
        exact ih (i + 1) (by omega)
set_option maxHeartbeats 1000000 in
set_option maxRecDepth 20000 in
theorem c6_by {G : xG} {d : Nat} {Q : xQ} {x ad b c : Nat → Nat} {tw ts : Nat} {κX : kS} {R : va_W} {t : Nat → Nat} {NM : Nat → Int64} {sn : Option Nat} {k w y z : Nat} (hE : EB ad tw ts G) (hNB : NB G) (hS : STR G R b c sn t) (hC : CHR G R c t NM) (hw : WT t) (hk : k < 40) (hy : κX.2.1 3 k = nI y) (hz : κX.2.1 4 k = nI z) (hy9 : y < 1024) (hz9 : z < 1024) (hwh : κX.2.2.2 2 k = Option.map ad (some w)) (hw1 : 15 ≤ w) (hw2 : w < 24) (hw7 : cwd w = 4 → z < 7) (kk : Q (some (.int (nI (orF (fun q => lfB t q (cwd w) y z) (t 2))))) (wSe G.2.2.1 x κX ++ R)) : MT G MX6_personsBy (d + 5) 0 0 [.ref (x 8), .ref (b 12), .int (nI k)] (wSe G.2.2.1 x κX ++ R) Q := by
  refine mt_start (L := [some (.ref (x 8)), some (.ref (b 12)), some (.int (nI k)), none, none]) rfl (Nat.le_of_ble_eq_true rfl) rfl ?_
  refine aw_iconst (pc := 0) dX6_personsBy_0 iconst_0 ?_
  refine aw_istore_n (pc := 1) (i := 3) dX6_personsBy_1 rfl (Nat.le_of_ble_eq_true rfl) rfl ?_
  refine aw_iconst (pc := 2) dX6_personsBy_2 iconst_0 ?_
  refine aw_istore (pc := 3) (i := 4) dX6_personsBy_3 (Nat.le_of_ble_eq_true rfl) rfl ?_
  exact by_loop hE hNB hS hC hw hk hy hz hy9 hz9 hwh hw1 hw2 hw7 kk (t 2) 0 (by omega)
