def cmpB (y v n : Nat) : Bool := if y = 60 then decide (v < n) else if y = 61 then decide (v = n) else decide (n < v)
def msr (t : Nat → Nat) (q x : Nat) : Nat := if x = 5 then t (114 + q) else if x = 6 then t (120 + q) else if x = 7 then t (132 + q) else q
def lfB (t : Nat → Nat) (q x y z : Nat) : Bool := if x = 0 then decide (t (108 + q) = t (79 + q)) else if x = 1 then decide (couldF t q = 0) else if x = 2 then decide (t (108 + q) = z) else if x = 3 then decide (t (79 + q) = z) else if x = 4 then (t (101 + t (79 + q))).testBit z else cmpB y (msr t q x) z
theorem b1_nar (b : Bool) : vp_nar .boolean (nI (b1 b)) = nI (b1 b) := by cases b <;> decide
theorem bI_b1 (b : Bool) : bI b = nI (b1 b) := by cases b <;> decide
theorem couldF_lt (t : Nat → Nat) (q : Nat) (h : t 0 ≤ 7) : couldF t q < 2 ^ 31 := Nat.lt_of_lt_of_le (orF_lt _ (t 0)) (Nat.pow_le_pow_right (by decide) (by omega))
set_option maxHeartbeats 1000000 in
set_option maxRecDepth 20000 in
theorem s_isLeaf {G : xG} {d : Nat} {Q : xQ} {a : Nat → Nat} {σ : mS} {q x y z : Nat} (hw : WT (σ.2.1 6)) (hq : q < σ.2.1 6 2) (hx : x ≤ 8) (hy : y < 1024) (hz : z < 1024) (hx4 : x = 4 → z < 7) (kk : Q (some (.int (bI (lfB (σ.2.1 6) q x y z)))) (mW G.2.2.1 a σ)) : MT G MX12_isLeaf (d + 5) 0 0 [.ref (a 60), .int (nI q), .int (nI x), .int (nI y), .int (nI z)] (mW G.2.2.1 a σ) Q := by
  obtain ⟨hb, h0, h1, h2, hR, hP, hD, hC, hT⟩ := id hw
  have hPq := hP q hq
  refine mt_start (L := [some (.ref (a 60)), some (.int (nI q)), some (.int (nI x)), some (.int (nI y)), some (.int (nI z)), none]) rfl (Nat.le_of_ble_eq_true rfl) rfl ?_
  refine aw_iload_n (pc := 0) (i := 2) dX12_isLeaf_0 rfl rfl ?_
  rcases (show x = 0 ∨ x = 1 ∨ x = 2 ∨ x = 3 ∨ x = 4 ∨ x = 5 ∨ x = 6 ∨ x = 7 ∨ x = 8 by omega) with rfl | rfl | rfl | rfl | rfl | rfl | rfl | rfl | rfl
  · -- case 0
    refine aw_tabIn (pc := 1) (tgt := 36) dX12_isLeaf_1 (by decide) (by decide) rfl rfl ?_
    refine aw_aload_n (pc := 36) (i := 0) dX12_isLeaf_36 rfl rfl ?_
    refine mg_s (pc := 37) dX12_isLeaf_37 rfl ?_
    refine aw_bipush (pc := 40) dX12_isLeaf_40 bipush_108 ?_
    refine aw_iload_n (pc := 42) (i := 1) dX12_isLeaf_42 rfl rfl ?_
    refine an_add (pc := 43) dX12_isLeaf_43 ?_
    refine ml_s (pc := 44) dX12_isLeaf_44 (by omega) ?_
    refine aw_aload_n (pc := 45) (i := 0) dX12_isLeaf_45 rfl rfl ?_
    refine mg_s (pc := 46) dX12_isLeaf_46 rfl ?_
    refine aw_bipush (pc := 49) dX12_isLeaf_49 bipush_79 ?_
    refine aw_iload_n (pc := 51) (i := 1) dX12_isLeaf_51 rfl rfl ?_
    refine an_add (pc := 52) dX12_isLeaf_52 ?_
    refine ml_s (pc := 53) dX12_isLeaf_53 (by omega) ?_
    refine an_icmp_ne (pc := 54) (tgt := 61) dX12_isLeaf_54 rfl (Nat.lt_trans (hb _) (by decide)) (Nat.lt_trans (hb _) (by decide)) (fun h54 => ?_) (fun h54 => ?_)
    · -- 61
      refine aw_iconst (pc := 61) dX12_isLeaf_61 iconst_0 ?_
      exact ab_ret0 (pc := 62) dX12_isLeaf_62 rfl (Nat.le_refl _) (Nat.le_refl _) (by rw [show lfB (σ.2.1 6) q 0 y z = false by simp [lfB, cmpB, msr, h54]] at kk; exact kk)
    · -- 57
      refine aw_iconst (pc := 57) dX12_isLeaf_57 iconst_1 ?_
      refine aw_goto (pc := 58) (tgt := 62) dX12_isLeaf_58 rfl ?_
      exact ab_ret1 (pc := 62) dX12_isLeaf_62 rfl (Nat.le_refl _) (Nat.le_refl _) (by rw [show lfB (σ.2.1 6) q 0 y z = true by simp [lfB, cmpB, msr, h54]] at kk; exact kk)
  · -- case 1
    refine aw_tabIn (pc := 1) (tgt := 63) dX12_isLeaf_1 (by decide) (by decide) rfl rfl ?_
    refine aw_aload_n (pc := 63) (i := 0) dX12_isLeaf_63 rfl rfl ?_
    refine aw_iload_n (pc := 64) (i := 1) dX12_isLeaf_64 rfl rfl ?_
    refine mc_I (pc := 65) (As := [.int (nI q)]) (rest := []) dX12_isLeaf_65 rfl ok_X12_309 rfl rfl rfl (Nat.le_of_ble_eq_true rfl) (s_couldOf hb h0 h1 (by omega) (by have := hP q (by assumption); omega) ⟨_, _, rfl, rfl, ?_⟩)
    refine an_if_ne (pc := 68) (tgt := 75) dX12_isLeaf_68 rfl (couldF_lt _ _ h0) (fun h68 => ?_) (fun h68 => ?_)
    · -- 75
      refine aw_iconst (pc := 75) dX12_isLeaf_75 iconst_0 ?_
      exact ab_ret0 (pc := 76) dX12_isLeaf_76 rfl (Nat.le_refl _) (Nat.le_refl _) (by rw [show lfB (σ.2.1 6) q 1 y z = false by simp [lfB, cmpB, msr, h68, (Nat.ne_of_gt h68)]] at kk; exact kk)
    · -- 71
      refine aw_iconst (pc := 71) dX12_isLeaf_71 iconst_1 ?_
      refine aw_goto (pc := 72) (tgt := 76) dX12_isLeaf_72 rfl ?_
      exact ab_ret1 (pc := 76) dX12_isLeaf_76 rfl (Nat.le_refl _) (Nat.le_refl _) (by rw [show lfB (σ.2.1 6) q 1 y z = true by simp [lfB, cmpB, msr, h68]] at kk; exact kk)
  · -- case 2
    refine aw_tabIn (pc := 1) (tgt := 77) dX12_isLeaf_1 (by decide) (by decide) rfl rfl ?_
    refine aw_aload_n (pc := 77) (i := 0) dX12_isLeaf_77 rfl rfl ?_
    refine mg_s (pc := 78) dX12_isLeaf_78 rfl ?_
    refine aw_bipush (pc := 81) dX12_isLeaf_81 bipush_108 ?_
    refine aw_iload_n (pc := 83) (i := 1) dX12_isLeaf_83 rfl rfl ?_
    refine an_add (pc := 84) dX12_isLeaf_84 ?_
    refine ml_s (pc := 85) dX12_isLeaf_85 (by omega) ?_
    refine aw_iload (pc := 86) dX12_isLeaf_86 rfl ?_
    refine an_icmp_ne (pc := 88) (tgt := 95) dX12_isLeaf_88 rfl (Nat.lt_trans (hb _) (by decide)) (by omega) (fun h88 => ?_) (fun h88 => ?_)
    · -- 95
      refine aw_iconst (pc := 95) dX12_isLeaf_95 iconst_0 ?_
      exact ab_ret0 (pc := 96) dX12_isLeaf_96 rfl (Nat.le_refl _) (Nat.le_refl _) (by rw [show lfB (σ.2.1 6) q 2 y z = false by simp [lfB, cmpB, msr, h88]] at kk; exact kk)
    · -- 91
      refine aw_iconst (pc := 91) dX12_isLeaf_91 iconst_1 ?_
      refine aw_goto (pc := 92) (tgt := 96) dX12_isLeaf_92 rfl ?_
      exact ab_ret1 (pc := 96) dX12_isLeaf_96 rfl (Nat.le_refl _) (Nat.le_refl _) (by rw [show lfB (σ.2.1 6) q 2 y z = true by simp [lfB, cmpB, msr, h88]] at kk; exact kk)
  · -- case 3
    refine aw_tabIn (pc := 1) (tgt := 97) dX12_isLeaf_1 (by decide) (by decide) rfl rfl ?_
    refine aw_aload_n (pc := 97) (i := 0) dX12_isLeaf_97 rfl rfl ?_
    refine mg_s (pc := 98) dX12_isLeaf_98 rfl ?_
    refine aw_bipush (pc := 101) dX12_isLeaf_101 bipush_79 ?_
    refine aw_iload_n (pc := 103) (i := 1) dX12_isLeaf_103 rfl rfl ?_
    refine an_add (pc := 104) dX12_isLeaf_104 ?_
    refine ml_s (pc := 105) dX12_isLeaf_105 (by omega) ?_
    refine aw_iload (pc := 106) dX12_isLeaf_106 rfl ?_
    refine an_icmp_ne (pc := 108) (tgt := 115) dX12_isLeaf_108 rfl (Nat.lt_trans (hb _) (by decide)) (by omega) (fun h108 => ?_) (fun h108 => ?_)
    · -- 115
      refine aw_iconst (pc := 115) dX12_isLeaf_115 iconst_0 ?_
      exact ab_ret0 (pc := 116) dX12_isLeaf_116 rfl (Nat.le_refl _) (Nat.le_refl _) (by rw [show lfB (σ.2.1 6) q 3 y z = false by simp [lfB, cmpB, msr, h108]] at kk; exact kk)
    · -- 111
      refine aw_iconst (pc := 111) dX12_isLeaf_111 iconst_1 ?_
      refine aw_goto (pc := 112) (tgt := 116) dX12_isLeaf_112 rfl ?_
      exact ab_ret1 (pc := 116) dX12_isLeaf_116 rfl (Nat.le_refl _) (Nat.le_refl _) (by rw [show lfB (σ.2.1 6) q 3 y z = true by simp [lfB, cmpB, msr, h108]] at kk; exact kk)
  · -- case 4
    refine aw_tabIn (pc := 1) (tgt := 117) dX12_isLeaf_1 (by decide) (by decide) rfl rfl ?_
    refine aw_aload_n (pc := 117) (i := 0) dX12_isLeaf_117 rfl rfl ?_
    refine mg_s (pc := 118) dX12_isLeaf_118 rfl ?_
    refine aw_bipush (pc := 121) dX12_isLeaf_121 bipush_101 ?_
    refine aw_aload_n (pc := 123) (i := 0) dX12_isLeaf_123 rfl rfl ?_
    refine mg_s (pc := 124) dX12_isLeaf_124 rfl ?_
    refine aw_bipush (pc := 127) dX12_isLeaf_127 bipush_79 ?_
    refine aw_iload_n (pc := 129) (i := 1) dX12_isLeaf_129 rfl rfl ?_
    refine an_add (pc := 130) dX12_isLeaf_130 ?_
    refine ml_s (pc := 131) dX12_isLeaf_131 (by omega) ?_
    refine an_add (pc := 132) dX12_isLeaf_132 ?_
    refine ml_s (pc := 133) dX12_isLeaf_133 (by omega) ?_
    refine aw_iload (pc := 134) dX12_isLeaf_134 rfl ?_
    refine mt_I (pc := 136) (As := [.int (nI (σ.2.1 6 (101 + (σ.2.1 6 (79 + q))))), .int (nI z)]) (rest := []) dX12_isLeaf_136 rfl ok_X12_257 rfl rfl rfl (Nat.le_of_ble_eq_true rfl) (s_bitOf (Nat.lt_trans (hb _) (by decide)) (by omega) ⟨_, _, rfl, rfl, ?_⟩)
    exact ab_ret (pc := 139) dX12_isLeaf_139 rfl (Nat.le_refl _) (Nat.le_refl _) (by rw [show lfB (σ.2.1 6) q 4 y z = (σ.2.1 6 (101 + (σ.2.1 6 (79 + q)))).testBit z from rfl] at kk; exact kk)
  · -- case 5
    refine aw_tabOut (pc := 1) (tgt := 140) dX12_isLeaf_1 (by decide) rfl ?_
    refine aw_iload_n (pc := 140) (i := 2) dX12_isLeaf_140 rfl rfl ?_
    refine aw_iconst (pc := 141) dX12_isLeaf_141 iconst_5 ?_
    refine an_icmp_ne (pc := 142) (tgt := 157) dX12_isLeaf_142 rfl (by decide) (by decide) (fun h142 => absurd h142 (by decide)) (fun h142 => ?_)
    refine aw_aload_n (pc := 145) (i := 0) dX12_isLeaf_145 rfl rfl ?_
    refine mg_s (pc := 146) dX12_isLeaf_146 rfl ?_
    refine aw_bipush (pc := 149) dX12_isLeaf_149 bipush_114 ?_
    refine aw_iload_n (pc := 151) (i := 1) dX12_isLeaf_151 rfl rfl ?_
    refine an_add (pc := 152) dX12_isLeaf_152 ?_
    refine ml_s (pc := 153) dX12_isLeaf_153 (by omega) ?_
    refine aw_goto (pc := 154) (tgt := 195) dX12_isLeaf_154 rfl ?_
    refine aw_istore (pc := 195) (i := 5) dX12_isLeaf_195 (Nat.le_of_ble_eq_true rfl) rfl ?_
    refine aw_iload_n (pc := 197) (i := 3) dX12_isLeaf_197 rfl rfl ?_
    refine aw_bipush (pc := 198) dX12_isLeaf_198 bipush_60 ?_
    refine an_icmp_ne (pc := 200) (tgt := 218) dX12_isLeaf_200 rfl (by omega) (by decide) (fun h200 => ?_) (fun h200 => ?_)
    · -- 218
      refine aw_iload_n (pc := 218) (i := 3) dX12_isLeaf_218 rfl rfl ?_
      refine aw_bipush (pc := 219) dX12_isLeaf_219 bipush_61 ?_
      refine an_icmp_ne (pc := 221) (tgt := 239) dX12_isLeaf_221 rfl (by omega) (by decide) (fun h221 => ?_) (fun h221 => ?_)
      · -- 239
        refine aw_iload (pc := 239) dX12_isLeaf_239 rfl ?_
        refine aw_iload (pc := 241) dX12_isLeaf_241 rfl ?_
        refine an_icmp_le (pc := 243) (tgt := 250) dX12_isLeaf_243 rfl (Nat.lt_trans (hb _) (by decide)) (by omega) (fun h243 => ?_) (fun h243 => ?_)
        · -- 250
          refine aw_iconst (pc := 250) dX12_isLeaf_250 iconst_0 ?_
          exact ab_ret0 (pc := 251) dX12_isLeaf_251 rfl (Nat.le_refl _) (Nat.le_refl _) (by rw [show lfB (σ.2.1 6) q 5 y z = false by simp [lfB, cmpB, msr, h200, h221, h243, (Nat.not_lt.mpr h243)]] at kk; exact kk)
        · -- 246
          refine aw_iconst (pc := 246) dX12_isLeaf_246 iconst_1 ?_
          refine aw_goto (pc := 247) (tgt := 251) dX12_isLeaf_247 rfl ?_
          exact ab_ret1 (pc := 251) dX12_isLeaf_251 rfl (Nat.le_refl _) (Nat.le_refl _) (by rw [show lfB (σ.2.1 6) q 5 y z = true by simp [lfB, cmpB, msr, h200, h221, h243, (Nat.not_le.mpr h243)]] at kk; exact kk)
      · -- 224
        refine aw_iload (pc := 224) dX12_isLeaf_224 rfl ?_
        refine aw_iload (pc := 226) dX12_isLeaf_226 rfl ?_
        refine an_icmp_ne (pc := 228) (tgt := 235) dX12_isLeaf_228 rfl (Nat.lt_trans (hb _) (by decide)) (by omega) (fun h228 => ?_) (fun h228 => ?_)
        · -- 235
          refine aw_iconst (pc := 235) dX12_isLeaf_235 iconst_0 ?_
          refine aw_goto (pc := 236) (tgt := 251) dX12_isLeaf_236 rfl ?_
          exact ab_ret0 (pc := 251) dX12_isLeaf_251 rfl (Nat.le_refl _) (Nat.le_refl _) (by rw [show lfB (σ.2.1 6) q 5 y z = false by simp [lfB, cmpB, msr, h200, h221, h228]] at kk; exact kk)
        · -- 231
          refine aw_iconst (pc := 231) dX12_isLeaf_231 iconst_1 ?_
          refine aw_goto (pc := 232) (tgt := 251) dX12_isLeaf_232 rfl ?_
          exact ab_ret1 (pc := 251) dX12_isLeaf_251 rfl (Nat.le_refl _) (Nat.le_refl _) (by rw [show lfB (σ.2.1 6) q 5 y z = true by simp [lfB, cmpB, msr, h200, h221, h228]] at kk; exact kk)
    · -- 203
      refine aw_iload (pc := 203) dX12_isLeaf_203 rfl ?_
      refine aw_iload (pc := 205) dX12_isLeaf_205 rfl ?_
      refine an_icmp_ge (pc := 207) (tgt := 214) dX12_isLeaf_207 rfl (Nat.lt_trans (hb _) (by decide)) (by omega) (fun h207 => ?_) (fun h207 => ?_)
      · -- 214
        refine aw_iconst (pc := 214) dX12_isLeaf_214 iconst_0 ?_
        refine aw_goto (pc := 215) (tgt := 251) dX12_isLeaf_215 rfl ?_
        exact ab_ret0 (pc := 251) dX12_isLeaf_251 rfl (Nat.le_refl _) (Nat.le_refl _) (by rw [show lfB (σ.2.1 6) q 5 y z = false by simp [lfB, cmpB, msr, h200, h207, (Nat.not_lt.mpr h207)]] at kk; exact kk)
      · -- 210
        refine aw_iconst (pc := 210) dX12_isLeaf_210 iconst_1 ?_
        refine aw_goto (pc := 211) (tgt := 251) dX12_isLeaf_211 rfl ?_
        exact ab_ret1 (pc := 251) dX12_isLeaf_251 rfl (Nat.le_refl _) (Nat.le_refl _) (by rw [show lfB (σ.2.1 6) q 5 y z = true by simp [lfB, cmpB, msr, h200, h207, (Nat.not_le.mpr h207)]] at kk; exact kk)
  · -- case 6
    refine aw_tabOut (pc := 1) (tgt := 140) dX12_isLeaf_1 (by decide) rfl ?_
    refine aw_iload_n (pc := 140) (i := 2) dX12_isLeaf_140 rfl rfl ?_
    refine aw_iconst (pc := 141) dX12_isLeaf_141 iconst_5 ?_
    refine an_icmp_ne (pc := 142) (tgt := 157) dX12_isLeaf_142 rfl (by decide) (by decide) (fun h142 => ?_) (fun h142 => absurd h142 (by decide))
    refine aw_iload_n (pc := 157) (i := 2) dX12_isLeaf_157 rfl rfl ?_
    refine aw_bipush (pc := 158) dX12_isLeaf_158 bipush_6 ?_
    refine an_icmp_ne (pc := 160) (tgt := 175) dX12_isLeaf_160 rfl (by decide) (by decide) (fun h160 => absurd h160 (by decide)) (fun h160 => ?_)
    refine aw_aload_n (pc := 163) (i := 0) dX12_isLeaf_163 rfl rfl ?_
    refine mg_s (pc := 164) dX12_isLeaf_164 rfl ?_
    refine aw_bipush (pc := 167) dX12_isLeaf_167 bipush_120 ?_
    refine aw_iload_n (pc := 169) (i := 1) dX12_isLeaf_169 rfl rfl ?_
    refine an_add (pc := 170) dX12_isLeaf_170 ?_
    refine ml_s (pc := 171) dX12_isLeaf_171 (by omega) ?_
    refine aw_goto (pc := 172) (tgt := 195) dX12_isLeaf_172 rfl ?_
    refine aw_istore (pc := 195) (i := 5) dX12_isLeaf_195 (Nat.le_of_ble_eq_true rfl) rfl ?_
    refine aw_iload_n (pc := 197) (i := 3) dX12_isLeaf_197 rfl rfl ?_
    refine aw_bipush (pc := 198) dX12_isLeaf_198 bipush_60 ?_
    refine an_icmp_ne (pc := 200) (tgt := 218) dX12_isLeaf_200 rfl (by omega) (by decide) (fun h200 => ?_) (fun h200 => ?_)
    · -- 218
      refine aw_iload_n (pc := 218) (i := 3) dX12_isLeaf_218 rfl rfl ?_
      refine aw_bipush (pc := 219) dX12_isLeaf_219 bipush_61 ?_
      refine an_icmp_ne (pc := 221) (tgt := 239) dX12_isLeaf_221 rfl (by omega) (by decide) (fun h221 => ?_) (fun h221 => ?_)
      · -- 239
        refine aw_iload (pc := 239) dX12_isLeaf_239 rfl ?_
        refine aw_iload (pc := 241) dX12_isLeaf_241 rfl ?_
        refine an_icmp_le (pc := 243) (tgt := 250) dX12_isLeaf_243 rfl (Nat.lt_trans (hb _) (by decide)) (by omega) (fun h243 => ?_) (fun h243 => ?_)
        · -- 250
          refine aw_iconst (pc := 250) dX12_isLeaf_250 iconst_0 ?_
          exact ab_ret0 (pc := 251) dX12_isLeaf_251 rfl (Nat.le_refl _) (Nat.le_refl _) (by rw [show lfB (σ.2.1 6) q 6 y z = false by simp [lfB, cmpB, msr, h200, h221, h243, (Nat.not_lt.mpr h243)]] at kk; exact kk)
        · -- 246
          refine aw_iconst (pc := 246) dX12_isLeaf_246 iconst_1 ?_
          refine aw_goto (pc := 247) (tgt := 251) dX12_isLeaf_247 rfl ?_
          exact ab_ret1 (pc := 251) dX12_isLeaf_251 rfl (Nat.le_refl _) (Nat.le_refl _) (by rw [show lfB (σ.2.1 6) q 6 y z = true by simp [lfB, cmpB, msr, h200, h221, h243, (Nat.not_le.mpr h243)]] at kk; exact kk)
      · -- 224
        refine aw_iload (pc := 224) dX12_isLeaf_224 rfl ?_
        refine aw_iload (pc := 226) dX12_isLeaf_226 rfl ?_
        refine an_icmp_ne (pc := 228) (tgt := 235) dX12_isLeaf_228 rfl (Nat.lt_trans (hb _) (by decide)) (by omega) (fun h228 => ?_) (fun h228 => ?_)
        · -- 235
          refine aw_iconst (pc := 235) dX12_isLeaf_235 iconst_0 ?_
          refine aw_goto (pc := 236) (tgt := 251) dX12_isLeaf_236 rfl ?_
          exact ab_ret0 (pc := 251) dX12_isLeaf_251 rfl (Nat.le_refl _) (Nat.le_refl _) (by rw [show lfB (σ.2.1 6) q 6 y z = false by simp [lfB, cmpB, msr, h200, h221, h228]] at kk; exact kk)
        · -- 231
          refine aw_iconst (pc := 231) dX12_isLeaf_231 iconst_1 ?_
          refine aw_goto (pc := 232) (tgt := 251) dX12_isLeaf_232 rfl ?_
          exact ab_ret1 (pc := 251) dX12_isLeaf_251 rfl (Nat.le_refl _) (Nat.le_refl _) (by rw [show lfB (σ.2.1 6) q 6 y z = true by simp [lfB, cmpB, msr, h200, h221, h228]] at kk; exact kk)
    · -- 203
      refine aw_iload (pc := 203) dX12_isLeaf_203 rfl ?_
      refine aw_iload (pc := 205) dX12_isLeaf_205 rfl ?_
      refine an_icmp_ge (pc := 207) (tgt := 214) dX12_isLeaf_207 rfl (Nat.lt_trans (hb _) (by decide)) (by omega) (fun h207 => ?_) (fun h207 => ?_)
      · -- 214
        refine aw_iconst (pc := 214) dX12_isLeaf_214 iconst_0 ?_
        refine aw_goto (pc := 215) (tgt := 251) dX12_isLeaf_215 rfl ?_
        exact ab_ret0 (pc := 251) dX12_isLeaf_251 rfl (Nat.le_refl _) (Nat.le_refl _) (by rw [show lfB (σ.2.1 6) q 6 y z = false by simp [lfB, cmpB, msr, h200, h207, (Nat.not_lt.mpr h207)]] at kk; exact kk)
      · -- 210
        refine aw_iconst (pc := 210) dX12_isLeaf_210 iconst_1 ?_
        refine aw_goto (pc := 211) (tgt := 251) dX12_isLeaf_211 rfl ?_
        exact ab_ret1 (pc := 251) dX12_isLeaf_251 rfl (Nat.le_refl _) (Nat.le_refl _) (by rw [show lfB (σ.2.1 6) q 6 y z = true by simp [lfB, cmpB, msr, h200, h207, (Nat.not_le.mpr h207)]] at kk; exact kk)
  · -- case 7
    refine aw_tabOut (pc := 1) (tgt := 140) dX12_isLeaf_1 (by decide) rfl ?_
    refine aw_iload_n (pc := 140) (i := 2) dX12_isLeaf_140 rfl rfl ?_
    refine aw_iconst (pc := 141) dX12_isLeaf_141 iconst_5 ?_
    refine an_icmp_ne (pc := 142) (tgt := 157) dX12_isLeaf_142 rfl (by decide) (by decide) (fun h142 => ?_) (fun h142 => absurd h142 (by decide))
    refine aw_iload_n (pc := 157) (i := 2) dX12_isLeaf_157 rfl rfl ?_
    refine aw_bipush (pc := 158) dX12_isLeaf_158 bipush_6 ?_
    refine an_icmp_ne (pc := 160) (tgt := 175) dX12_isLeaf_160 rfl (by decide) (by decide) (fun h160 => ?_) (fun h160 => absurd h160 (by decide))
    refine aw_iload_n (pc := 175) (i := 2) dX12_isLeaf_175 rfl rfl ?_
    refine aw_bipush (pc := 176) dX12_isLeaf_176 bipush_7 ?_
    refine an_icmp_ne (pc := 178) (tgt := 194) dX12_isLeaf_178 rfl (by decide) (by decide) (fun h178 => absurd h178 (by decide)) (fun h178 => ?_)
    refine aw_aload_n (pc := 181) (i := 0) dX12_isLeaf_181 rfl rfl ?_
    refine mg_s (pc := 182) dX12_isLeaf_182 rfl ?_
    refine aw_sipush (pc := 185) dX12_isLeaf_185 sipush_132 ?_
    refine aw_iload_n (pc := 188) (i := 1) dX12_isLeaf_188 rfl rfl ?_
    refine an_add (pc := 189) dX12_isLeaf_189 ?_
    refine ml_s (pc := 190) dX12_isLeaf_190 (by omega) ?_
    refine aw_goto (pc := 191) (tgt := 195) dX12_isLeaf_191 rfl ?_
    refine aw_istore (pc := 195) (i := 5) dX12_isLeaf_195 (Nat.le_of_ble_eq_true rfl) rfl ?_
    refine aw_iload_n (pc := 197) (i := 3) dX12_isLeaf_197 rfl rfl ?_
    refine aw_bipush (pc := 198) dX12_isLeaf_198 bipush_60 ?_
    refine an_icmp_ne (pc := 200) (tgt := 218) dX12_isLeaf_200 rfl (by omega) (by decide) (fun h200 => ?_) (fun h200 => ?_)
    · -- 218
      refine aw_iload_n (pc := 218) (i := 3) dX12_isLeaf_218 rfl rfl ?_
      refine aw_bipush (pc := 219) dX12_isLeaf_219 bipush_61 ?_
      refine an_icmp_ne (pc := 221) (tgt := 239) dX12_isLeaf_221 rfl (by omega) (by decide) (fun h221 => ?_) (fun h221 => ?_)
      · -- 239
        refine aw_iload (pc := 239) dX12_isLeaf_239 rfl ?_
        refine aw_iload (pc := 241) dX12_isLeaf_241 rfl ?_
        refine an_icmp_le (pc := 243) (tgt := 250) dX12_isLeaf_243 rfl (Nat.lt_trans (hb _) (by decide)) (by omega) (fun h243 => ?_) (fun h243 => ?_)
        · -- 250
          refine aw_iconst (pc := 250) dX12_isLeaf_250 iconst_0 ?_
          exact ab_ret0 (pc := 251) dX12_isLeaf_251 rfl (Nat.le_refl _) (Nat.le_refl _) (by rw [show lfB (σ.2.1 6) q 7 y z = false by simp [lfB, cmpB, msr, h200, h221, h243, (Nat.not_lt.mpr h243)]] at kk; exact kk)
        · -- 246
          refine aw_iconst (pc := 246) dX12_isLeaf_246 iconst_1 ?_
          refine aw_goto (pc := 247) (tgt := 251) dX12_isLeaf_247 rfl ?_
          exact ab_ret1 (pc := 251) dX12_isLeaf_251 rfl (Nat.le_refl _) (Nat.le_refl _) (by rw [show lfB (σ.2.1 6) q 7 y z = true by simp [lfB, cmpB, msr, h200, h221, h243, (Nat.not_le.mpr h243)]] at kk; exact kk)
      · -- 224
        refine aw_iload (pc := 224) dX12_isLeaf_224 rfl ?_
        refine aw_iload (pc := 226) dX12_isLeaf_226 rfl ?_
        refine an_icmp_ne (pc := 228) (tgt := 235) dX12_isLeaf_228 rfl (Nat.lt_trans (hb _) (by decide)) (by omega) (fun h228 => ?_) (fun h228 => ?_)
        · -- 235
          refine aw_iconst (pc := 235) dX12_isLeaf_235 iconst_0 ?_
          refine aw_goto (pc := 236) (tgt := 251) dX12_isLeaf_236 rfl ?_
          exact ab_ret0 (pc := 251) dX12_isLeaf_251 rfl (Nat.le_refl _) (Nat.le_refl _) (by rw [show lfB (σ.2.1 6) q 7 y z = false by simp [lfB, cmpB, msr, h200, h221, h228]] at kk; exact kk)
        · -- 231
          refine aw_iconst (pc := 231) dX12_isLeaf_231 iconst_1 ?_
          refine aw_goto (pc := 232) (tgt := 251) dX12_isLeaf_232 rfl ?_
          exact ab_ret1 (pc := 251) dX12_isLeaf_251 rfl (Nat.le_refl _) (Nat.le_refl _) (by rw [show lfB (σ.2.1 6) q 7 y z = true by simp [lfB, cmpB, msr, h200, h221, h228]] at kk; exact kk)
    · -- 203
      refine aw_iload (pc := 203) dX12_isLeaf_203 rfl ?_
      refine aw_iload (pc := 205) dX12_isLeaf_205 rfl ?_
      refine an_icmp_ge (pc := 207) (tgt := 214) dX12_isLeaf_207 rfl (Nat.lt_trans (hb _) (by decide)) (by omega) (fun h207 => ?_) (fun h207 => ?_)
      · -- 214
        refine aw_iconst (pc := 214) dX12_isLeaf_214 iconst_0 ?_
        refine aw_goto (pc := 215) (tgt := 251) dX12_isLeaf_215 rfl ?_
        exact ab_ret0 (pc := 251) dX12_isLeaf_251 rfl (Nat.le_refl _) (Nat.le_refl _) (by rw [show lfB (σ.2.1 6) q 7 y z = false by simp [lfB, cmpB, msr, h200, h207, (Nat.not_lt.mpr h207)]] at kk; exact kk)
      · -- 210
        refine aw_iconst (pc := 210) dX12_isLeaf_210 iconst_1 ?_
        refine aw_goto (pc := 211) (tgt := 251) dX12_isLeaf_211 rfl ?_
        exact ab_ret1 (pc := 251) dX12_isLeaf_251 rfl (Nat.le_refl _) (Nat.le_refl _) (by rw [show lfB (σ.2.1 6) q 7 y z = true by simp [lfB, cmpB, msr, h200, h207, (Nat.not_le.mpr h207)]] at kk; exact kk)
  · -- case 8
    refine aw_tabOut (pc := 1) (tgt := 140) dX12_isLeaf_1 (by decide) rfl ?_
    refine aw_iload_n (pc := 140) (i := 2) dX12_isLeaf_140 rfl rfl ?_
    refine aw_iconst (pc := 141) dX12_isLeaf_141 iconst_5 ?_
    refine an_icmp_ne (pc := 142) (tgt := 157) dX12_isLeaf_142 rfl (by decide) (by decide) (fun h142 => ?_) (fun h142 => absurd h142 (by decide))
    refine aw_iload_n (pc := 157) (i := 2) dX12_isLeaf_157 rfl rfl ?_
    refine aw_bipush (pc := 158) dX12_isLeaf_158 bipush_6 ?_
    refine an_icmp_ne (pc := 160) (tgt := 175) dX12_isLeaf_160 rfl (by decide) (by decide) (fun h160 => ?_) (fun h160 => absurd h160 (by decide))
    refine aw_iload_n (pc := 175) (i := 2) dX12_isLeaf_175 rfl rfl ?_
    refine aw_bipush (pc := 176) dX12_isLeaf_176 bipush_7 ?_
    refine an_icmp_ne (pc := 178) (tgt := 194) dX12_isLeaf_178 rfl (by decide) (by decide) (fun h178 => ?_) (fun h178 => absurd h178 (by decide))
    refine aw_iload_n (pc := 194) (i := 1) dX12_isLeaf_194 rfl rfl ?_
    refine aw_istore (pc := 195) (i := 5) dX12_isLeaf_195 (Nat.le_of_ble_eq_true rfl) rfl ?_
    refine aw_iload_n (pc := 197) (i := 3) dX12_isLeaf_197 rfl rfl ?_
    refine aw_bipush (pc := 198) dX12_isLeaf_198 bipush_60 ?_
    refine an_icmp_ne (pc := 200) (tgt := 218) dX12_isLeaf_200 rfl (by omega) (by decide) (fun h200 => ?_) (fun h200 => ?_)
    · -- 218
      refine aw_iload_n (pc := 218) (i := 3) dX12_isLeaf_218 rfl rfl ?_
      refine aw_bipush (pc := 219) dX12_isLeaf_219 bipush_61 ?_
      refine an_icmp_ne (pc := 221) (tgt := 239) dX12_isLeaf_221 rfl (by omega) (by decide) (fun h221 => ?_) (fun h221 => ?_)
      · -- 239
        refine aw_iload (pc := 239) dX12_isLeaf_239 rfl ?_
        refine aw_iload (pc := 241) dX12_isLeaf_241 rfl ?_
        refine an_icmp_le (pc := 243) (tgt := 250) dX12_isLeaf_243 rfl (by omega) (by omega) (fun h243 => ?_) (fun h243 => ?_)
        · -- 250
          refine aw_iconst (pc := 250) dX12_isLeaf_250 iconst_0 ?_
          exact ab_ret0 (pc := 251) dX12_isLeaf_251 rfl (Nat.le_refl _) (Nat.le_refl _) (by rw [show lfB (σ.2.1 6) q 8 y z = false by simp [lfB, cmpB, msr, h200, h221, h243, (Nat.not_lt.mpr h243)]] at kk; exact kk)
        · -- 246
          refine aw_iconst (pc := 246) dX12_isLeaf_246 iconst_1 ?_
          refine aw_goto (pc := 247) (tgt := 251) dX12_isLeaf_247 rfl ?_
          exact ab_ret1 (pc := 251) dX12_isLeaf_251 rfl (Nat.le_refl _) (Nat.le_refl _) (by rw [show lfB (σ.2.1 6) q 8 y z = true by simp [lfB, cmpB, msr, h200, h221, h243, (Nat.not_le.mpr h243)]] at kk; exact kk)
      · -- 224
        refine aw_iload (pc := 224) dX12_isLeaf_224 rfl ?_
        refine aw_iload (pc := 226) dX12_isLeaf_226 rfl ?_
        refine an_icmp_ne (pc := 228) (tgt := 235) dX12_isLeaf_228 rfl (by omega) (by omega) (fun h228 => ?_) (fun h228 => ?_)
        · -- 235
          refine aw_iconst (pc := 235) dX12_isLeaf_235 iconst_0 ?_
          refine aw_goto (pc := 236) (tgt := 251) dX12_isLeaf_236 rfl ?_
          exact ab_ret0 (pc := 251) dX12_isLeaf_251 rfl (Nat.le_refl _) (Nat.le_refl _) (by rw [show lfB (σ.2.1 6) q 8 y z = false by simp [lfB, cmpB, msr, h200, h221, h228]] at kk; exact kk)
        · -- 231
          refine aw_iconst (pc := 231) dX12_isLeaf_231 iconst_1 ?_
          refine aw_goto (pc := 232) (tgt := 251) dX12_isLeaf_232 rfl ?_
          exact ab_ret1 (pc := 251) dX12_isLeaf_251 rfl (Nat.le_refl _) (Nat.le_refl _) (by rw [show lfB (σ.2.1 6) q 8 y z = true by simp [lfB, cmpB, msr, h200, h221, h228]] at kk; exact kk)
    · -- 203
      refine aw_iload (pc := 203) dX12_isLeaf_203 rfl ?_
      refine aw_iload (pc := 205) dX12_isLeaf_205 rfl ?_
      refine an_icmp_ge (pc := 207) (tgt := 214) dX12_isLeaf_207 rfl (by omega) (by omega) (fun h207 => ?_) (fun h207 => ?_)
      · -- 214
        refine aw_iconst (pc := 214) dX12_isLeaf_214 iconst_0 ?_
        refine aw_goto (pc := 215) (tgt := 251) dX12_isLeaf_215 rfl ?_
        exact ab_ret0 (pc := 251) dX12_isLeaf_251 rfl (Nat.le_refl _) (Nat.le_refl _) (by rw [show lfB (σ.2.1 6) q 8 y z = false by simp [lfB, cmpB, msr, h200, h207, (Nat.not_lt.mpr h207)]] at kk; exact kk)
      · -- 210
        refine aw_iconst (pc := 210) dX12_isLeaf_210 iconst_1 ?_
        refine aw_goto (pc := 211) (tgt := 251) dX12_isLeaf_211 rfl ?_
        exact ab_ret1 (pc := 251) dX12_isLeaf_251 rfl (Nat.le_refl _) (Nat.le_refl _) (by rw [show lfB (σ.2.1 6) q 8 y z = true by simp [lfB, cmpB, msr, h200, h207, (Nat.not_le.mpr h207)]] at kk; exact kk)
theorem nI_dec {x : Nat} (h : 1 ≤ x) : nI x + (-1) = nI (x - 1) := by
  have e : nI x = nI (x - 1) + nI 1 := by rw [nI_add]; congr 1; omega
  rw [e, Int32.add_assoc, show nI 1 + (-1 : Int32) = 0 by decide, Int32.add_zero]
theorem aw_drop {G : xG} {μ : xM} {d mc ms : Nat} {Q : xQ} {pc : Nat} {L : List (Option Value)} {st : List Value} {ws : va_W} {n k : Nat} (i : Nat) (kk : AW G μ d mc ms Q pc (L.set i none) st ws n k) : AW G μ d mc ms Q pc L st ws n k := aw_sub (fun j v h => by
  by_cases e : i = j
  · subst e
    rw [List.getElem?_set] at h
    by_cases hl : i < L.length
    · simp [hl] at h
    · simp [hl] at h
  · rw [List.getElem?_set_ne e] at h
    exact h) kk
def notV (a : Nat) : Nat := if a = 0 then 1 else 0
def andV (a b : Nat) : Nat := if a = 0 then 0 else if b = 0 then 0 else 1
def orV (a b : Nat) : Nat := if a = 0 then (if b = 0 then 0 else 1) else 1
/-- one code done: truths, and how many -/
def evS (t : Nat → Nat) (q x y z : Nat) (p : Nat × (Nat → Nat)) : Nat × (Nat → Nat) := if x = 20 then (p.1, upN p.2 (p.1 - 1) (notV (p.2 (p.1 - 1)))) else if x = 21 then (p.1 - 1, upN p.2 (p.1 - 1 - 1) (andV (p.2 (p.1 - 1 - 1)) (p.2 (p.1 - 1)))) else if x = 22 then (p.1 - 1, upN p.2 (p.1 - 1 - 1) (orV (p.2 (p.1 - 1 - 1)) (p.2 (p.1 - 1)))) else (p.1 + 1, upN p.2 p.1 (b1 (lfB t q x y z)))
def evF (t : Nat → Nat) (q : Nat) (u : Nat → Nat) : Nat → Nat × (Nat → Nat)
  | 0 => (0, u)
  | i + 1 => evS t q (t (139 + 3 * i)) (t (139 + 3 * i + 1)) (t (139 + 3 * i + 2)) (evF t q u i)
def SK (t : Nat → Nat) : Prop := t 138 ≤ 40 ∧ (∃ D, dpF t 139 (t 138) = some D) ∧ ∀ j, j < 3 * t 138 → t (139 + j) < 1024
theorem dpF_pre {f : Nat → Nat} {b : Nat} : ∀ {c : Nat}, (∃ D, dpF f b c = some D) → ∀ i, i ≤ c → ∃ n, dpF f b i = some n := by
  intro c
  induction c with
  | zero => intro h i hi; rw [show i = 0 by omega]; exact h
  | succ c ih =>
    intro h i hi
    by_cases e : i = c + 1
    · rw [e]; exact h
    · refine ih ?_ i (by omega)
      obtain ⟨D, hD⟩ := h
      rw [dpF] at hD
      split at hD
      · exact absurd hD (by simp)
      · rename_i n hn
        exact ⟨n, hn⟩
theorem dpS_ev {t : Nat → Nat} {q x y z D : Nat} {p : Nat × (Nat → Nat)} (h : dpS p.1 x z = some D) : (evS t q x y z p).1 = D ∧ (x = 20 → 1 ≤ p.1) ∧ (x = 21 ∨ x = 22 → 2 ≤ p.1) ∧ (¬ x = 20 → ¬ x = 21 → ¬ x = 22 → x ≤ 8 ∧ (x = 4 → z < 7)) := by
  unfold dpS at h
  unfold evS
  split at h
  · rename_i h1
    split at h
    · rename_i h2
      rw [if_pos h1]
      injection h with h
      exact ⟨h, fun _ => h2, fun h3 => by omega, fun h3 => absurd h1 h3⟩
    · exact absurd h (by simp)
  · rename_i h1
    rw [if_neg h1]
    split at h
    · rename_i h2
      split at h
      · rename_i h3
        injection h with h
        refine ⟨?_, fun h4 => absurd h4 h1, fun _ => h3, fun _ h4 h5 => by omega⟩
        by_cases h4 : x = 21
        · rw [if_pos h4]; exact h
        · rw [if_neg h4, if_pos (by omega)]; exact h
      · exact absurd h (by simp)
    · rename_i h2
      split at h
      · rename_i h3
        injection h with h
        rw [if_neg (by omega), if_neg (by omega)]
        exact ⟨h, fun h4 => absurd h4 h1, fun h4 => absurd h4 h2, fun _ _ _ => h3⟩
      · exact absurd h (by simp)
theorem dpF_ev {t : Nat → Nat} {q : Nat} {u : Nat → Nat} {c : Nat} (h : ∃ D, dpF t 139 c = some D) : ∀ i, i ≤ c → dpF t 139 i = some (evF t q u i).1 := by
  intro i
  induction i with
  | zero => intro _; rfl
  | succ i ih =>
    intro hi
    have h1 := ih (by omega)
    obtain ⟨n, hn⟩ := dpF_pre h (i + 1) hi
    rw [hn]
    rw [dpF, h1] at hn
    have := (dpS_ev (t := t) (q := q) (y := t (139 + 3 * i + 1)) (p := evF t q u i) hn).1
    rw [evF, this]
theorem ev_le {t : Nat → Nat} {q : Nat} {u : Nat → Nat} : ∀ i, (evF t q u i).1 ≤ i := by
  intro i
  induction i with
  | zero => exact Nat.le_refl _
  | succ i ih =>
    rw [evF]
    unfold evS
    split
    · show (evF t q u i).1 ≤ i + 1; omega
    · split
      · show (evF t q u i).1 - 1 ≤ i + 1; omega
      · split
        · show (evF t q u i).1 - 1 ≤ i + 1; omega
        · show (evF t q u i).1 + 1 ≤ i + 1; omega
theorem ev_lt {t : Nat → Nat} {q : Nat} {u : Nat → Nat} (hu : ∀ j, u j < 2) : ∀ i j, (evF t q u i).2 j < 2 := by
  intro i
  induction i with
  | zero => exact hu
  | succ i ih =>
    intro j
    have h1 : ∀ (k v : Nat), v < 2 → upN (evF t q u i).2 k v j < 2 := fun k v hv => by
      by_cases e : j = k
      · rw [e, upN_s]; exact hv
      · rw [upN_n _ _ _ _ e]; exact ih j
    rw [evF]
    unfold evS
    split
    · exact h1 _ _ (by unfold notV; split <;> omega)
    · split
      · exact h1 _ _ (by unfold andV; split; omega; split <;> omega)
      · split
        · refine h1 _ _ ?_
          unfold orV
          split
          · split <;> omega
          · omega
        · exact h1 _ _ (by unfold b1; split <;> omega)
set_option maxHeartbeats 1000000 in
set_option maxRecDepth 20000 in
theorem said_loop {G : xG} {d : Nat} {Q : xQ} {a : Nat → Nat} {σ : mS} {q : Nat} {u0 : Nat → Nat} (hw : WT (σ.2.1 6)) (hq : q < σ.2.1 6 2) (hsk : SK (σ.2.1 6)) (hu : ∀ j, u0 j < 2) (kk : Q (some (.int (bI (decide ((evF (σ.2.1 6) q u0 (σ.2.1 6 138)).2 0 = 1))))) (mW G.2.2.1 a (sN σ 56 (evF (σ.2.1 6) q u0 (σ.2.1 6 138)).2))) : ∀ (n i : Nat), i + n = σ.2.1 6 138 → ∀ p : Nat × (Nat → Nat), evF (σ.2.1 6) q u0 i = p → AW G MX12_isSaid (d + 6) 0 0 Q 4 [some (.ref (a 60)), some (.int (nI q)), some (.int (nI p.1)), some (.int (nI i)), none] [] (mW G.2.2.1 a (sN σ 56 p.2)) 0 0 := by
  obtain ⟨hb, h0, h1, h2, hR, hP, hD0, hC, hT⟩ := id hw
  have hsk1 := hsk.1
  intro n
  induction n with
  | zero =>
    intro i hi p he
    have ht2 : ∀ j, p.2 j < 2 := fun j => by rw [← he]; exact ev_lt hu i j
    have ei : i = σ.2.1 6 138 := by omega
    refine aw_iload_n (pc := 4) (i := 3) dX12_isSaid_4 rfl rfl ?_
    refine aw_aload_n (pc := 5) (i := 0) dX12_isSaid_5 rfl rfl ?_
    refine mg_s (pc := 6) dX12_isSaid_6 rfl ?_
    refine aw_sipush (pc := 9) dX12_isSaid_9 sipush_138 ?_
    refine ml_s (pc := 12) dX12_isSaid_12 (by decide) ?_
    refine aw_top (y := (nI (σ.2.1 6 138))) rfl ?_
    refine an_icmp_ge (pc := 13) (tgt := 212) dX12_isSaid_13 rfl (by omega) (Nat.lt_trans (hb _) (by decide)) (fun h13 => ?_) (fun h13 => ?_)
    · -- 212
      refine aw_aload_n (pc := 212) (i := 0) dX12_isSaid_212 rfl rfl ?_
      refine mg_truths (pc := 213) dX12_isSaid_213 rfl ?_
      refine aw_iconst (pc := 216) dX12_isSaid_216 iconst_0 ?_
      refine ml_truths (pc := 217) dX12_isSaid_217 (by decide) ?_
      refine aw_top (y := (nI (p.2 0))) rfl ?_
      refine aw_top (y := (bI (decide (p.2 0 = 1)))) (by have := ht2 0; rcases (show p.2 0 = 0 ∨ p.2 0 = 1 by omega) with e | e <;> rw [e] <;> decide) ?_
      exact ab_ret (pc := 218) dX12_isSaid_218 rfl (Nat.le_refl _) (Nat.le_refl _) (by rw [show (σ.2.1 6 138) = i from ei.symm, he] at kk; exact kk)
    · -- 16
      exfalso; omega
  | succ n ih =>
    intro i hi p he
    have ht2 : ∀ j, p.2 j < 2 ^ 31 := fun j => by rw [← he]; exact Nat.lt_trans (ev_lt hu i j) (by decide)
    have hd := dpF_ev (q := q) (u := u0) hsk.2.1 i (by omega)
    obtain ⟨D, hD⟩ := dpF_pre hsk.2.1 (i + 1) (by omega)
    rw [dpF, hd] at hD
    rw [he] at hD
    have hpl : p.1 ≤ i := by have := ev_le (t := σ.2.1 6) (q := q) (u := u0) i; rw [he] at this; exact this
    obtain ⟨-, hp20, hpJ, hlf⟩ := dpS_ev (t := σ.2.1 6) (q := q) (y := σ.2.1 6 (139 + 3 * i + 1)) (p := p) hD
    have h1024 : ∀ j, j < 3 * σ.2.1 6 138 → σ.2.1 6 (139 + j) < 1024 := hsk.2.2
    refine aw_iload_n (pc := 4) (i := 3) dX12_isSaid_4 rfl rfl ?_
    refine aw_aload_n (pc := 5) (i := 0) dX12_isSaid_5 rfl rfl ?_
    refine mg_s (pc := 6) dX12_isSaid_6 rfl ?_
    refine aw_sipush (pc := 9) dX12_isSaid_9 sipush_138 ?_
    refine ml_s (pc := 12) dX12_isSaid_12 (by decide) ?_
    refine aw_top (y := (nI (σ.2.1 6 138))) rfl ?_
    refine an_icmp_ge (pc := 13) (tgt := 212) dX12_isSaid_13 rfl (by omega) (Nat.lt_trans (hb _) (by decide)) (fun h13 => ?_) (fun h13 => ?_)
    · -- 212
      exfalso; omega
    · -- 16
      refine aw_sipush (pc := 16) dX12_isSaid_16 sipush_139 ?_
      refine aw_iconst (pc := 19) dX12_isSaid_19 iconst_3 ?_
      refine aw_iload_n (pc := 20) (i := 3) dX12_isSaid_20 rfl rfl ?_
      refine an_mul (pc := 21) dX12_isSaid_21 ?_
      refine an_add (pc := 22) dX12_isSaid_22 ?_
      refine aw_istore (pc := 23) (i := 4) dX12_isSaid_23 (Nat.le_of_ble_eq_true rfl) rfl ?_
      refine aw_aload_n (pc := 25) (i := 0) dX12_isSaid_25 rfl rfl ?_
      refine mg_s (pc := 26) dX12_isSaid_26 rfl ?_
      refine aw_iload (pc := 29) dX12_isSaid_29 rfl ?_
      refine ml_s (pc := 31) dX12_isSaid_31 (by omega) ?_
      refine aw_top (y := (nI (σ.2.1 6 (139 + (3 * i))))) rfl ?_
      refine aw_bipush (pc := 32) dX12_isSaid_32 bipush_20 ?_
      refine an_icmp_ne (pc := 34) (tgt := 64) dX12_isSaid_34 rfl (Nat.lt_trans (hb _) (by decide)) (by decide) (fun h34 => ?_) (fun h34 => ?_)
      · -- 64
        refine aw_aload_n (pc := 64) (i := 0) dX12_isSaid_64 rfl rfl ?_
        refine mg_s (pc := 65) dX12_isSaid_65 rfl ?_
        refine aw_iload (pc := 68) dX12_isSaid_68 rfl ?_
        refine ml_s (pc := 70) dX12_isSaid_70 (by omega) ?_
        refine aw_top (y := (nI (σ.2.1 6 (139 + (3 * i))))) rfl ?_
        refine aw_bipush (pc := 71) dX12_isSaid_71 bipush_21 ?_
        refine an_icmp_eq (pc := 73) (tgt := 88) dX12_isSaid_73 rfl (Nat.lt_trans (hb _) (by decide)) (by decide) (fun h73 => ?_) (fun h73 => ?_)
        · -- 88
          refine an_dec (pc := 88) (v := (-1 : Int32)) (y := nI (p.1 - 1)) dX12_isSaid_88 rfl (by decide) (nI_dec (by omega)) (Nat.le_of_ble_eq_true rfl) rfl ?_
          refine aw_aload_n (pc := 91) (i := 0) dX12_isSaid_91 rfl rfl ?_
          refine mg_truths (pc := 92) dX12_isSaid_92 rfl ?_
          refine aw_iload_n (pc := 95) (i := 2) dX12_isSaid_95 rfl rfl ?_
          refine aw_iconst (pc := 96) dX12_isSaid_96 iconst_1 ?_
          refine an_sub (pc := 97) dX12_isSaid_97 (by omega) ?_
          refine aw_aload_n (pc := 98) (i := 0) dX12_isSaid_98 rfl rfl ?_
          refine mg_s (pc := 99) dX12_isSaid_99 rfl ?_
          refine aw_iload (pc := 102) dX12_isSaid_102 rfl ?_
          refine ml_s (pc := 104) dX12_isSaid_104 (by omega) ?_
          refine aw_top (y := (nI (σ.2.1 6 (139 + (3 * i))))) rfl ?_
          refine aw_bipush (pc := 105) dX12_isSaid_105 bipush_21 ?_
          refine an_icmp_ne (pc := 107) (tgt := 138) dX12_isSaid_107 rfl (Nat.lt_trans (hb _) (by decide)) (by decide) (fun h107 => ?_) (fun h107 => ?_)
          · -- 138
            refine aw_aload_n (pc := 138) (i := 0) dX12_isSaid_138 rfl rfl ?_
            refine mg_truths (pc := 139) dX12_isSaid_139 rfl ?_
            refine aw_iload_n (pc := 142) (i := 2) dX12_isSaid_142 rfl rfl ?_
            refine aw_iconst (pc := 143) dX12_isSaid_143 iconst_1 ?_
            refine an_sub (pc := 144) dX12_isSaid_144 (by omega) ?_
            refine ml_truths (pc := 145) dX12_isSaid_145 (by omega) ?_
            refine aw_top (y := (nI (p.2 ((p.1 - 1) - 1)))) rfl ?_
            refine an_if_ne (pc := 146) (tgt := 158) dX12_isSaid_146 rfl (ht2 _) (fun h146 => ?_) (fun h146 => ?_)
            · -- 158
              refine aw_iconst (pc := 158) dX12_isSaid_158 iconst_1 ?_
              refine aw_goto (pc := 159) (tgt := 163) dX12_isSaid_159 rfl ?_
              refine ms_truths (pc := 163) dX12_isSaid_163 (by omega) (by decide) ?_
              refine aw_goto (pc := 164) (tgt := 206) dX12_isSaid_164 rfl ?_
              refine an_inc (pc := 206) (z := 1) dX12_isSaid_206 rfl (Nat.le_of_ble_eq_true rfl) rfl ?_
              refine aw_goto (pc := 209) (tgt := 4) dX12_isSaid_209 rfl ?_
              have e1 : evF (σ.2.1 6) q u0 (i + 1) = (p.1 - 1, upN p.2 ((p.1 - 1) - 1) 1) := by first | (exfalso; omega) | (rw [evF, he]; simp [evS, notV, andV, orV, h13, h34, h73, h107, h146, (Nat.ne_of_gt h146)])
              refine aw_drop 4 ?_
              refine aw_ws (w9 := mW G.2.2.1 a (sN σ 56 (upN p.2 ((p.1 - 1) - 1) 1))) rfl ?_
              exact ih (i + 1) (by omega) _ e1
            · -- 149
              refine aw_aload_n (pc := 149) (i := 0) dX12_isSaid_149 rfl rfl ?_
              refine mg_truths (pc := 150) dX12_isSaid_150 rfl ?_
              refine aw_iload_n (pc := 153) (i := 2) dX12_isSaid_153 rfl rfl ?_
              refine ml_truths (pc := 154) dX12_isSaid_154 (by omega) ?_
              refine aw_top (y := (nI (p.2 (p.1 - 1)))) rfl ?_
              refine an_if_eq (pc := 155) (tgt := 162) dX12_isSaid_155 rfl (ht2 _) (fun h155 => ?_) (fun h155 => ?_)
              · -- 162
                refine aw_iconst (pc := 162) dX12_isSaid_162 iconst_0 ?_
                refine ms_truths (pc := 163) dX12_isSaid_163 (by omega) (by decide) ?_
                refine aw_goto (pc := 164) (tgt := 206) dX12_isSaid_164 rfl ?_
                refine an_inc (pc := 206) (z := 1) dX12_isSaid_206 rfl (Nat.le_of_ble_eq_true rfl) rfl ?_
                refine aw_goto (pc := 209) (tgt := 4) dX12_isSaid_209 rfl ?_
                have e1 : evF (σ.2.1 6) q u0 (i + 1) = (p.1 - 1, upN p.2 ((p.1 - 1) - 1) 0) := by first | (exfalso; omega) | (rw [evF, he]; simp [evS, notV, andV, orV, h13, h34, h73, h107, h146, h155])
                refine aw_drop 4 ?_
                refine aw_ws (w9 := mW G.2.2.1 a (sN σ 56 (upN p.2 ((p.1 - 1) - 1) 0))) rfl ?_
                exact ih (i + 1) (by omega) _ e1
              · -- 158
                refine aw_iconst (pc := 158) dX12_isSaid_158 iconst_1 ?_
                refine aw_goto (pc := 159) (tgt := 163) dX12_isSaid_159 rfl ?_
                refine ms_truths (pc := 163) dX12_isSaid_163 (by omega) (by decide) ?_
                refine aw_goto (pc := 164) (tgt := 206) dX12_isSaid_164 rfl ?_
                refine an_inc (pc := 206) (z := 1) dX12_isSaid_206 rfl (Nat.le_of_ble_eq_true rfl) rfl ?_
                refine aw_goto (pc := 209) (tgt := 4) dX12_isSaid_209 rfl ?_
                have e1 : evF (σ.2.1 6) q u0 (i + 1) = (p.1 - 1, upN p.2 ((p.1 - 1) - 1) 1) := by first | (exfalso; omega) | (rw [evF, he]; simp [evS, notV, andV, orV, h13, h34, h73, h107, h146, h155, (Nat.ne_of_gt h155)])
                refine aw_drop 4 ?_
                refine aw_ws (w9 := mW G.2.2.1 a (sN σ 56 (upN p.2 ((p.1 - 1) - 1) 1))) rfl ?_
                exact ih (i + 1) (by omega) _ e1
          · -- 110
            refine aw_aload_n (pc := 110) (i := 0) dX12_isSaid_110 rfl rfl ?_
            refine mg_truths (pc := 111) dX12_isSaid_111 rfl ?_
            refine aw_iload_n (pc := 114) (i := 2) dX12_isSaid_114 rfl rfl ?_
            refine aw_iconst (pc := 115) dX12_isSaid_115 iconst_1 ?_
            refine an_sub (pc := 116) dX12_isSaid_116 (by omega) ?_
            refine ml_truths (pc := 117) dX12_isSaid_117 (by omega) ?_
            refine aw_top (y := (nI (p.2 ((p.1 - 1) - 1)))) rfl ?_
            refine an_if_eq (pc := 118) (tgt := 134) dX12_isSaid_118 rfl (ht2 _) (fun h118 => ?_) (fun h118 => ?_)
            · -- 134
              refine aw_iconst (pc := 134) dX12_isSaid_134 iconst_0 ?_
              refine aw_goto (pc := 135) (tgt := 163) dX12_isSaid_135 rfl ?_
              refine ms_truths (pc := 163) dX12_isSaid_163 (by omega) (by decide) ?_
              refine aw_goto (pc := 164) (tgt := 206) dX12_isSaid_164 rfl ?_
              refine an_inc (pc := 206) (z := 1) dX12_isSaid_206 rfl (Nat.le_of_ble_eq_true rfl) rfl ?_
              refine aw_goto (pc := 209) (tgt := 4) dX12_isSaid_209 rfl ?_
              have e1 : evF (σ.2.1 6) q u0 (i + 1) = (p.1 - 1, upN p.2 ((p.1 - 1) - 1) 0) := by first | (exfalso; omega) | (rw [evF, he]; simp [evS, notV, andV, orV, h13, h34, h73, h107, h118])
              refine aw_drop 4 ?_
              refine aw_ws (w9 := mW G.2.2.1 a (sN σ 56 (upN p.2 ((p.1 - 1) - 1) 0))) rfl ?_
              exact ih (i + 1) (by omega) _ e1
            · -- 121
              refine aw_aload_n (pc := 121) (i := 0) dX12_isSaid_121 rfl rfl ?_
              refine mg_truths (pc := 122) dX12_isSaid_122 rfl ?_
              refine aw_iload_n (pc := 125) (i := 2) dX12_isSaid_125 rfl rfl ?_
              refine ml_truths (pc := 126) dX12_isSaid_126 (by omega) ?_
              refine aw_top (y := (nI (p.2 (p.1 - 1)))) rfl ?_
              refine an_if_eq (pc := 127) (tgt := 134) dX12_isSaid_127 rfl (ht2 _) (fun h127 => ?_) (fun h127 => ?_)
              · -- 134
                refine aw_iconst (pc := 134) dX12_isSaid_134 iconst_0 ?_
                refine aw_goto (pc := 135) (tgt := 163) dX12_isSaid_135 rfl ?_
                refine ms_truths (pc := 163) dX12_isSaid_163 (by omega) (by decide) ?_
                refine aw_goto (pc := 164) (tgt := 206) dX12_isSaid_164 rfl ?_
                refine an_inc (pc := 206) (z := 1) dX12_isSaid_206 rfl (Nat.le_of_ble_eq_true rfl) rfl ?_
                refine aw_goto (pc := 209) (tgt := 4) dX12_isSaid_209 rfl ?_
                have e1 : evF (σ.2.1 6) q u0 (i + 1) = (p.1 - 1, upN p.2 ((p.1 - 1) - 1) 0) := by first | (exfalso; omega) | (rw [evF, he]; simp [evS, notV, andV, orV, h13, h34, h73, h107, h118, (Nat.ne_of_gt h118), h127])
                refine aw_drop 4 ?_
                refine aw_ws (w9 := mW G.2.2.1 a (sN σ 56 (upN p.2 ((p.1 - 1) - 1) 0))) rfl ?_
                exact ih (i + 1) (by omega) _ e1
              · -- 130
                refine aw_iconst (pc := 130) dX12_isSaid_130 iconst_1 ?_
                refine aw_goto (pc := 131) (tgt := 163) dX12_isSaid_131 rfl ?_
                refine ms_truths (pc := 163) dX12_isSaid_163 (by omega) (by decide) ?_
                refine aw_goto (pc := 164) (tgt := 206) dX12_isSaid_164 rfl ?_
                refine an_inc (pc := 206) (z := 1) dX12_isSaid_206 rfl (Nat.le_of_ble_eq_true rfl) rfl ?_
                refine aw_goto (pc := 209) (tgt := 4) dX12_isSaid_209 rfl ?_
                have e1 : evF (σ.2.1 6) q u0 (i + 1) = (p.1 - 1, upN p.2 ((p.1 - 1) - 1) 1) := by first | (exfalso; omega) | (rw [evF, he]; simp [evS, notV, andV, orV, h13, h34, h73, h107, h118, (Nat.ne_of_gt h118), h127, (Nat.ne_of_gt h127)])
                refine aw_drop 4 ?_
                refine aw_ws (w9 := mW G.2.2.1 a (sN σ 56 (upN p.2 ((p.1 - 1) - 1) 1))) rfl ?_
                exact ih (i + 1) (by omega) _ e1
        · -- 76
          refine aw_aload_n (pc := 76) (i := 0) dX12_isSaid_76 rfl rfl ?_
          refine mg_s (pc := 77) dX12_isSaid_77 rfl ?_
          refine aw_iload (pc := 80) dX12_isSaid_80 rfl ?_
          refine ml_s (pc := 82) dX12_isSaid_82 (by omega) ?_
          refine aw_top (y := (nI (σ.2.1 6 (139 + (3 * i))))) rfl ?_
          refine aw_bipush (pc := 83) dX12_isSaid_83 bipush_22 ?_
          refine an_icmp_ne (pc := 85) (tgt := 167) dX12_isSaid_85 rfl (Nat.lt_trans (hb _) (by decide)) (by decide) (fun h85 => ?_) (fun h85 => ?_)
          · -- 167
            refine aw_aload_n (pc := 167) (i := 0) dX12_isSaid_167 rfl rfl ?_
            refine mg_truths (pc := 168) dX12_isSaid_168 rfl ?_
            refine aw_iload_n (pc := 171) (i := 2) dX12_isSaid_171 rfl rfl ?_
            refine aw_aload_n (pc := 172) (i := 0) dX12_isSaid_172 rfl rfl ?_
            refine aw_iload_n (pc := 173) (i := 1) dX12_isSaid_173 rfl rfl ?_
            refine aw_aload_n (pc := 174) (i := 0) dX12_isSaid_174 rfl rfl ?_
            refine mg_s (pc := 175) dX12_isSaid_175 rfl ?_
            refine aw_iload (pc := 178) dX12_isSaid_178 rfl ?_
            refine ml_s (pc := 180) dX12_isSaid_180 (by omega) ?_
            refine aw_top (y := (nI (σ.2.1 6 (139 + (3 * i))))) rfl ?_
            refine aw_aload_n (pc := 181) (i := 0) dX12_isSaid_181 rfl rfl ?_
            refine mg_s (pc := 182) dX12_isSaid_182 rfl ?_
            refine aw_iload (pc := 185) dX12_isSaid_185 rfl ?_
            refine aw_iconst (pc := 187) dX12_isSaid_187 iconst_1 ?_
            refine an_add (pc := 188) dX12_isSaid_188 ?_
            refine ml_s (pc := 189) dX12_isSaid_189 (by omega) ?_
            refine aw_top (y := (nI (σ.2.1 6 ((139 + (3 * i)) + 1)))) rfl ?_
            refine aw_aload_n (pc := 190) (i := 0) dX12_isSaid_190 rfl rfl ?_
            refine mg_s (pc := 191) dX12_isSaid_191 rfl ?_
            refine aw_iload (pc := 194) dX12_isSaid_194 rfl ?_
            refine aw_iconst (pc := 196) dX12_isSaid_196 iconst_2 ?_
            refine an_add (pc := 197) dX12_isSaid_197 ?_
            refine ml_s (pc := 198) dX12_isSaid_198 (by omega) ?_
            refine aw_top (y := (nI (σ.2.1 6 ((139 + (3 * i)) + 2)))) rfl ?_
            refine mc_I (pc := 199) (As := [.int (nI q), .int (nI (σ.2.1 6 (139 + (3 * i)))), .int (nI (σ.2.1 6 ((139 + (3 * i)) + 1))), .int (nI (σ.2.1 6 ((139 + (3 * i)) + 2)))]) (rest := [.int (nI p.1), .ref (a 56)]) dX12_isSaid_199 rfl ok_X12_483 rfl rfl rfl (Nat.le_of_ble_eq_true rfl) (s_isLeaf hw hq (hlf h34 h73 h85).1 (h1024 (3 * i + 1) (by omega)) (h1024 (3 * i + 2) (by omega)) (hlf h34 h73 h85).2 ⟨_, _, rfl, rfl, ?_⟩)
            refine aw_top (y := bI (lfB (σ.2.1 6) q (σ.2.1 6 (139 + (3 * i))) (σ.2.1 6 ((139 + (3 * i)) + 1)) (σ.2.1 6 ((139 + (3 * i)) + 2)))) rfl ?_
            refine aw_top (y := (nI (b1 (lfB (σ.2.1 6) q (σ.2.1 6 (139 + (3 * i))) (σ.2.1 6 ((139 + (3 * i)) + 1)) (σ.2.1 6 ((139 + (3 * i)) + 2)))))) (bI_b1 _) ?_
            refine ms_truths (pc := 202) dX12_isSaid_202 (by omega) (b1_nar _) ?_
            refine an_inc (pc := 203) (z := 1) dX12_isSaid_203 rfl (Nat.le_of_ble_eq_true rfl) rfl ?_
            refine an_inc (pc := 206) (z := 1) dX12_isSaid_206 rfl (Nat.le_of_ble_eq_true rfl) rfl ?_
            refine aw_goto (pc := 209) (tgt := 4) dX12_isSaid_209 rfl ?_
            have e1 : evF (σ.2.1 6) q u0 (i + 1) = (p.1 + 1, upN p.2 p.1 (b1 (lfB (σ.2.1 6) q (σ.2.1 6 (139 + (3 * i))) (σ.2.1 6 ((139 + (3 * i)) + 1)) (σ.2.1 6 ((139 + (3 * i)) + 2))))) := by first | (exfalso; omega) | (rw [evF, he]; simp [evS, notV, andV, orV, h13, h34, h73, h85])
            refine aw_drop 4 ?_
            refine aw_ws (w9 := mW G.2.2.1 a (sN σ 56 (upN p.2 p.1 (b1 (lfB (σ.2.1 6) q (σ.2.1 6 (139 + (3 * i))) (σ.2.1 6 ((139 + (3 * i)) + 1)) (σ.2.1 6 ((139 + (3 * i)) + 2))))))) rfl ?_
            exact ih (i + 1) (by omega) _ e1
          · -- 88
            refine an_dec (pc := 88) (v := (-1 : Int32)) (y := nI (p.1 - 1)) dX12_isSaid_88 rfl (by decide) (nI_dec (by omega)) (Nat.le_of_ble_eq_true rfl) rfl ?_
            refine aw_aload_n (pc := 91) (i := 0) dX12_isSaid_91 rfl rfl ?_
            refine mg_truths (pc := 92) dX12_isSaid_92 rfl ?_
            refine aw_iload_n (pc := 95) (i := 2) dX12_isSaid_95 rfl rfl ?_
            refine aw_iconst (pc := 96) dX12_isSaid_96 iconst_1 ?_
            refine an_sub (pc := 97) dX12_isSaid_97 (by omega) ?_
            refine aw_aload_n (pc := 98) (i := 0) dX12_isSaid_98 rfl rfl ?_
            refine mg_s (pc := 99) dX12_isSaid_99 rfl ?_
            refine aw_iload (pc := 102) dX12_isSaid_102 rfl ?_
            refine ml_s (pc := 104) dX12_isSaid_104 (by omega) ?_
            refine aw_top (y := (nI (σ.2.1 6 (139 + (3 * i))))) rfl ?_
            refine aw_bipush (pc := 105) dX12_isSaid_105 bipush_21 ?_
            refine an_icmp_ne (pc := 107) (tgt := 138) dX12_isSaid_107 rfl (Nat.lt_trans (hb _) (by decide)) (by decide) (fun h107 => ?_) (fun h107 => ?_)
            · -- 138
              refine aw_aload_n (pc := 138) (i := 0) dX12_isSaid_138 rfl rfl ?_
              refine mg_truths (pc := 139) dX12_isSaid_139 rfl ?_
              refine aw_iload_n (pc := 142) (i := 2) dX12_isSaid_142 rfl rfl ?_
              refine aw_iconst (pc := 143) dX12_isSaid_143 iconst_1 ?_
              refine an_sub (pc := 144) dX12_isSaid_144 (by omega) ?_
              refine ml_truths (pc := 145) dX12_isSaid_145 (by omega) ?_
              refine aw_top (y := (nI (p.2 ((p.1 - 1) - 1)))) rfl ?_
              refine an_if_ne (pc := 146) (tgt := 158) dX12_isSaid_146 rfl (ht2 _) (fun h146 => ?_) (fun h146 => ?_)
              · -- 158
                refine aw_iconst (pc := 158) dX12_isSaid_158 iconst_1 ?_
                refine aw_goto (pc := 159) (tgt := 163) dX12_isSaid_159 rfl ?_
                refine ms_truths (pc := 163) dX12_isSaid_163 (by omega) (by decide) ?_
                refine aw_goto (pc := 164) (tgt := 206) dX12_isSaid_164 rfl ?_
                refine an_inc (pc := 206) (z := 1) dX12_isSaid_206 rfl (Nat.le_of_ble_eq_true rfl) rfl ?_
                refine aw_goto (pc := 209) (tgt := 4) dX12_isSaid_209 rfl ?_
                have e1 : evF (σ.2.1 6) q u0 (i + 1) = (p.1 - 1, upN p.2 ((p.1 - 1) - 1) 1) := by first | (exfalso; omega) | (rw [evF, he]; simp [evS, notV, andV, orV, h13, h34, h73, h85, h107, h146, (Nat.ne_of_gt h146)])
                refine aw_drop 4 ?_
                refine aw_ws (w9 := mW G.2.2.1 a (sN σ 56 (upN p.2 ((p.1 - 1) - 1) 1))) rfl ?_
                exact ih (i + 1) (by omega) _ e1
              · -- 149
                refine aw_aload_n (pc := 149) (i := 0) dX12_isSaid_149 rfl rfl ?_
                refine mg_truths (pc := 150) dX12_isSaid_150 rfl ?_
                refine aw_iload_n (pc := 153) (i := 2) dX12_isSaid_153 rfl rfl ?_
                refine ml_truths (pc := 154) dX12_isSaid_154 (by omega) ?_
                refine aw_top (y := (nI (p.2 (p.1 - 1)))) rfl ?_
                refine an_if_eq (pc := 155) (tgt := 162) dX12_isSaid_155 rfl (ht2 _) (fun h155 => ?_) (fun h155 => ?_)
                · -- 162
                  refine aw_iconst (pc := 162) dX12_isSaid_162 iconst_0 ?_
                  refine ms_truths (pc := 163) dX12_isSaid_163 (by omega) (by decide) ?_
                  refine aw_goto (pc := 164) (tgt := 206) dX12_isSaid_164 rfl ?_
                  refine an_inc (pc := 206) (z := 1) dX12_isSaid_206 rfl (Nat.le_of_ble_eq_true rfl) rfl ?_
                  refine aw_goto (pc := 209) (tgt := 4) dX12_isSaid_209 rfl ?_
                  have e1 : evF (σ.2.1 6) q u0 (i + 1) = (p.1 - 1, upN p.2 ((p.1 - 1) - 1) 0) := by first | (exfalso; omega) | (rw [evF, he]; simp [evS, notV, andV, orV, h13, h34, h73, h85, h107, h146, h155])
                  refine aw_drop 4 ?_
                  refine aw_ws (w9 := mW G.2.2.1 a (sN σ 56 (upN p.2 ((p.1 - 1) - 1) 0))) rfl ?_
                  exact ih (i + 1) (by omega) _ e1
                · -- 158
                  refine aw_iconst (pc := 158) dX12_isSaid_158 iconst_1 ?_
                  refine aw_goto (pc := 159) (tgt := 163) dX12_isSaid_159 rfl ?_
                  refine ms_truths (pc := 163) dX12_isSaid_163 (by omega) (by decide) ?_
                  refine aw_goto (pc := 164) (tgt := 206) dX12_isSaid_164 rfl ?_
                  refine an_inc (pc := 206) (z := 1) dX12_isSaid_206 rfl (Nat.le_of_ble_eq_true rfl) rfl ?_
                  refine aw_goto (pc := 209) (tgt := 4) dX12_isSaid_209 rfl ?_
                  have e1 : evF (σ.2.1 6) q u0 (i + 1) = (p.1 - 1, upN p.2 ((p.1 - 1) - 1) 1) := by first | (exfalso; omega) | (rw [evF, he]; simp [evS, notV, andV, orV, h13, h34, h73, h85, h107, h146, h155, (Nat.ne_of_gt h155)])
                  refine aw_drop 4 ?_
                  refine aw_ws (w9 := mW G.2.2.1 a (sN σ 56 (upN p.2 ((p.1 - 1) - 1) 1))) rfl ?_
                  exact ih (i + 1) (by omega) _ e1
            · -- 110
              refine aw_aload_n (pc := 110) (i := 0) dX12_isSaid_110 rfl rfl ?_
              refine mg_truths (pc := 111) dX12_isSaid_111 rfl ?_
              refine aw_iload_n (pc := 114) (i := 2) dX12_isSaid_114 rfl rfl ?_
              refine aw_iconst (pc := 115) dX12_isSaid_115 iconst_1 ?_
              refine an_sub (pc := 116) dX12_isSaid_116 (by omega) ?_
              refine ml_truths (pc := 117) dX12_isSaid_117 (by omega) ?_
              refine aw_top (y := (nI (p.2 ((p.1 - 1) - 1)))) rfl ?_
              refine an_if_eq (pc := 118) (tgt := 134) dX12_isSaid_118 rfl (ht2 _) (fun h118 => ?_) (fun h118 => ?_)
              · -- 134
                refine aw_iconst (pc := 134) dX12_isSaid_134 iconst_0 ?_
                refine aw_goto (pc := 135) (tgt := 163) dX12_isSaid_135 rfl ?_
                refine ms_truths (pc := 163) dX12_isSaid_163 (by omega) (by decide) ?_
                refine aw_goto (pc := 164) (tgt := 206) dX12_isSaid_164 rfl ?_
                refine an_inc (pc := 206) (z := 1) dX12_isSaid_206 rfl (Nat.le_of_ble_eq_true rfl) rfl ?_
                refine aw_goto (pc := 209) (tgt := 4) dX12_isSaid_209 rfl ?_
                have e1 : evF (σ.2.1 6) q u0 (i + 1) = (p.1 - 1, upN p.2 ((p.1 - 1) - 1) 0) := by first | (exfalso; omega) | (rw [evF, he]; simp [evS, notV, andV, orV, h13, h34, h73, h85, h107, h118])
                refine aw_drop 4 ?_
                refine aw_ws (w9 := mW G.2.2.1 a (sN σ 56 (upN p.2 ((p.1 - 1) - 1) 0))) rfl ?_
                exact ih (i + 1) (by omega) _ e1
              · -- 121
                refine aw_aload_n (pc := 121) (i := 0) dX12_isSaid_121 rfl rfl ?_
                refine mg_truths (pc := 122) dX12_isSaid_122 rfl ?_
                refine aw_iload_n (pc := 125) (i := 2) dX12_isSaid_125 rfl rfl ?_
                refine ml_truths (pc := 126) dX12_isSaid_126 (by omega) ?_
                refine aw_top (y := (nI (p.2 (p.1 - 1)))) rfl ?_
                refine an_if_eq (pc := 127) (tgt := 134) dX12_isSaid_127 rfl (ht2 _) (fun h127 => ?_) (fun h127 => ?_)
                · -- 134
                  refine aw_iconst (pc := 134) dX12_isSaid_134 iconst_0 ?_
                  refine aw_goto (pc := 135) (tgt := 163) dX12_isSaid_135 rfl ?_
                  refine ms_truths (pc := 163) dX12_isSaid_163 (by omega) (by decide) ?_
                  refine aw_goto (pc := 164) (tgt := 206) dX12_isSaid_164 rfl ?_
                  refine an_inc (pc := 206) (z := 1) dX12_isSaid_206 rfl (Nat.le_of_ble_eq_true rfl) rfl ?_
                  refine aw_goto (pc := 209) (tgt := 4) dX12_isSaid_209 rfl ?_
                  have e1 : evF (σ.2.1 6) q u0 (i + 1) = (p.1 - 1, upN p.2 ((p.1 - 1) - 1) 0) := by first | (exfalso; omega) | (rw [evF, he]; simp [evS, notV, andV, orV, h13, h34, h73, h85, h107, h118, (Nat.ne_of_gt h118), h127])
                  refine aw_drop 4 ?_
                  refine aw_ws (w9 := mW G.2.2.1 a (sN σ 56 (upN p.2 ((p.1 - 1) - 1) 0))) rfl ?_
                  exact ih (i + 1) (by omega) _ e1
                · -- 130
                  refine aw_iconst (pc := 130) dX12_isSaid_130 iconst_1 ?_
                  refine aw_goto (pc := 131) (tgt := 163) dX12_isSaid_131 rfl ?_
                  refine ms_truths (pc := 163) dX12_isSaid_163 (by omega) (by decide) ?_
                  refine aw_goto (pc := 164) (tgt := 206) dX12_isSaid_164 rfl ?_
                  refine an_inc (pc := 206) (z := 1) dX12_isSaid_206 rfl (Nat.le_of_ble_eq_true rfl) rfl ?_
                  refine aw_goto (pc := 209) (tgt := 4) dX12_isSaid_209 rfl ?_
                  have e1 : evF (σ.2.1 6) q u0 (i + 1) = (p.1 - 1, upN p.2 ((p.1 - 1) - 1) 1) := by first | (exfalso; omega) | (rw [evF, he]; simp [evS, notV, andV, orV, h13, h34, h73, h85, h107, h118, (Nat.ne_of_gt h118), h127, (Nat.ne_of_gt h127)])
                  refine aw_drop 4 ?_
                  refine aw_ws (w9 := mW G.2.2.1 a (sN σ 56 (upN p.2 ((p.1 - 1) - 1) 1))) rfl ?_
                  exact ih (i + 1) (by omega) _ e1
      · -- 37
        refine aw_aload_n (pc := 37) (i := 0) dX12_isSaid_37 rfl rfl ?_
        refine mg_truths (pc := 38) dX12_isSaid_38 rfl ?_
        refine aw_iload_n (pc := 41) (i := 2) dX12_isSaid_41 rfl rfl ?_
        refine aw_iconst (pc := 42) dX12_isSaid_42 iconst_1 ?_
        refine an_sub (pc := 43) dX12_isSaid_43 (by omega) ?_
        refine aw_aload_n (pc := 44) (i := 0) dX12_isSaid_44 rfl rfl ?_
        refine mg_truths (pc := 45) dX12_isSaid_45 rfl ?_
        refine aw_iload_n (pc := 48) (i := 2) dX12_isSaid_48 rfl rfl ?_
        refine aw_iconst (pc := 49) dX12_isSaid_49 iconst_1 ?_
        refine an_sub (pc := 50) dX12_isSaid_50 (by omega) ?_
        refine ml_truths (pc := 51) dX12_isSaid_51 (by omega) ?_
        refine aw_top (y := (nI (p.2 (p.1 - 1)))) rfl ?_
        refine an_if_ne (pc := 52) (tgt := 59) dX12_isSaid_52 rfl (ht2 _) (fun h52 => ?_) (fun h52 => ?_)
        · -- 59
          refine aw_iconst (pc := 59) dX12_isSaid_59 iconst_0 ?_
          refine ms_truths (pc := 60) dX12_isSaid_60 (by omega) (by decide) ?_
          refine aw_goto (pc := 61) (tgt := 206) dX12_isSaid_61 rfl ?_
          refine an_inc (pc := 206) (z := 1) dX12_isSaid_206 rfl (Nat.le_of_ble_eq_true rfl) rfl ?_
          refine aw_goto (pc := 209) (tgt := 4) dX12_isSaid_209 rfl ?_
          have e1 : evF (σ.2.1 6) q u0 (i + 1) = (p.1, upN p.2 (p.1 - 1) 0) := by first | (exfalso; omega) | (rw [evF, he]; simp [evS, notV, andV, orV, h13, h34, h52, (Nat.ne_of_gt h52)])
          refine aw_drop 4 ?_
          refine aw_ws (w9 := mW G.2.2.1 a (sN σ 56 (upN p.2 (p.1 - 1) 0))) rfl ?_
          exact ih (i + 1) (by omega) _ e1
        · -- 55
          refine aw_iconst (pc := 55) dX12_isSaid_55 iconst_1 ?_
          refine aw_goto (pc := 56) (tgt := 60) dX12_isSaid_56 rfl ?_
          refine ms_truths (pc := 60) dX12_isSaid_60 (by omega) (by decide) ?_
          refine aw_goto (pc := 61) (tgt := 206) dX12_isSaid_61 rfl ?_
          refine an_inc (pc := 206) (z := 1) dX12_isSaid_206 rfl (Nat.le_of_ble_eq_true rfl) rfl ?_
          refine aw_goto (pc := 209) (tgt := 4) dX12_isSaid_209 rfl ?_
          have e1 : evF (σ.2.1 6) q u0 (i + 1) = (p.1, upN p.2 (p.1 - 1) 1) := by first | (exfalso; omega) | (rw [evF, he]; simp [evS, notV, andV, orV, h13, h34, h52])
          refine aw_drop 4 ?_
          refine aw_ws (w9 := mW G.2.2.1 a (sN σ 56 (upN p.2 (p.1 - 1) 1))) rfl ?_
          exact ih (i + 1) (by omega) _ e1
set_option maxHeartbeats 1000000 in
set_option maxRecDepth 20000 in
theorem s_isSaid {G : xG} {d : Nat} {Q : xQ} {a : Nat → Nat} {σ : mS} {q : Nat} (hw : WT (σ.2.1 6)) (hq : q < σ.2.1 6 2) (hsk : SK (σ.2.1 6)) (hu : ∀ j, σ.2.1 56 j < 2) (kk : Q (some (.int (bI (decide ((evF (σ.2.1 6) q (σ.2.1 56) (σ.2.1 6 138)).2 0 = 1))))) (mW G.2.2.1 a (sN σ 56 (evF (σ.2.1 6) q (σ.2.1 56) (σ.2.1 6 138)).2))) : MT G MX12_isSaid (d + 6) 0 0 [.ref (a 60), .int (nI q)] (mW G.2.2.1 a σ) Q := by
  refine mt_start (L := [some (.ref (a 60)), some (.int (nI q)), none, none, none]) rfl (Nat.le_of_ble_eq_true rfl) rfl ?_
  refine aw_iconst (pc := 0) dX12_isSaid_0 iconst_0 ?_
  refine aw_istore_n (pc := 1) (i := 2) dX12_isSaid_1 rfl (Nat.le_of_ble_eq_true rfl) rfl ?_
  refine aw_iconst (pc := 2) dX12_isSaid_2 iconst_0 ?_
  refine aw_istore_n (pc := 3) (i := 3) dX12_isSaid_3 rfl (Nat.le_of_ble_eq_true rfl) rfl ?_
  refine aw_ws (w9 := mW G.2.2.1 a (sN σ 56 (σ.2.1 56))) rfl ?_
  exact said_loop hw hq hsk hu kk (σ.2.1 6 138) 0 (by omega) (0, σ.2.1 56) rfl
def saU (t u : Nat → Nat) : Nat → (Nat → Nat)
  | 0 => u
  | q + 1 => (evF t q (saU t u q) (t 138)).2
def saB (t u : Nat → Nat) (q : Nat) : Bool := decide (saU t u (q + 1) 0 = 1)
def saL (B : Nat → Bool) (x : Int32) : Nat → Nat → Nat → Int32
  | 0, _, c => if x = -1 then nI c else -1
  | m + 1, i, c => if B i = true then (if nI c = x then nI i else saL B x m (i + 1) (c + 1)) else saL B x m (i + 1) c
def saidA (t u : Nat → Nat) (x : Int32) : Int32 := if t 138 = 0 then -1 else if x < -1 then -1 else saL (saB t u) x (t 2) 0 0
theorem saU_lt {t u : Nat → Nat} (hu : ∀ j, u j < 2) : ∀ q j, saU t u q j < 2 := by
  intro q
  induction q with
  | zero => exact hu
  | succ q ih => intro j; exact ev_lt ih _ j
set_option maxHeartbeats 1000000 in
set_option maxRecDepth 20000 in
theorem saidX_loop {G : xG} {d : Nat} {Q : xQ} {a : Nat → Nat} {σ : mS} {x : Int32} (hw : WT (σ.2.1 6)) (hsk : SK (σ.2.1 6)) (hu : ∀ j, σ.2.1 56 j < 2) {r : Int32} (kk : ∀ u, Q (some (.int r)) (mW G.2.2.1 a (sN σ 56 u))) : ∀ (n i c : Nat), i + n = σ.2.1 6 2 → c ≤ i → saL (saB (σ.2.1 6) (σ.2.1 56)) x n i c = r → AW G MX12_said (d + 7) 0 0 Q 27 [some (.ref (a 60)), some (.int x), some (.int (nI c)), some (.int (nI i))] [] (mW G.2.2.1 a (sN σ 56 (saU (σ.2.1 6) (σ.2.1 56) i))) 0 0 := by
  have hb := hw.1
  have h2 := hw.2.2.2.1
  intro n
  induction n with
  | zero =>
    intro i c hi hc he
    refine aw_iload_n (pc := 27) (i := 3) dX12_said_27 rfl rfl ?_
    refine aw_aload_n (pc := 28) (i := 0) dX12_said_28 rfl rfl ?_
    refine mg_s (pc := 29) dX12_said_29 rfl ?_
    refine aw_iconst (pc := 32) dX12_said_32 iconst_2 ?_
    refine ml_s (pc := 33) dX12_said_33 (by decide) ?_
    refine aw_top (y := (nI (σ.2.1 6 2))) rfl ?_
    refine an_icmp_ge (pc := 34) (tgt := 64) dX12_said_34 rfl (by omega) (Nat.lt_trans (hb _) (by decide)) (fun h34 => ?_) (fun h34 => ?_)
    · -- 64
      refine aw_iload_n (pc := 64) (i := 1) dX12_said_64 rfl rfl ?_
      refine aw_iconst (pc := 65) dX12_said_65 iconst_m1 ?_
      refine aw_icmp_ne (pc := 66) (tgt := 73) dX12_said_66 rfl (fun h66 => ?_) (fun h66 => ?_)
      · -- 73
        refine aw_iconst (pc := 73) dX12_said_73 iconst_m1 ?_
        exact aw_iret (pc := 74) dX12_said_74 rfl (Nat.le_refl _) (Nat.le_refl _) (by rw [← he, saL, if_neg h66] at kk; exact kk _)
      · -- 69
        refine aw_iload_n (pc := 69) (i := 2) dX12_said_69 rfl rfl ?_
        refine aw_goto (pc := 70) (tgt := 74) dX12_said_70 rfl ?_
        exact aw_iret (pc := 74) dX12_said_74 rfl (Nat.le_refl _) (Nat.le_refl _) (by rw [← he, saL, if_pos h66] at kk; exact kk _)
    · -- 37
      exfalso; omega
  | succ n ih =>
    intro i c hi hc he
    refine aw_iload_n (pc := 27) (i := 3) dX12_said_27 rfl rfl ?_
    refine aw_aload_n (pc := 28) (i := 0) dX12_said_28 rfl rfl ?_
    refine mg_s (pc := 29) dX12_said_29 rfl ?_
    refine aw_iconst (pc := 32) dX12_said_32 iconst_2 ?_
    refine ml_s (pc := 33) dX12_said_33 (by decide) ?_
    refine aw_top (y := (nI (σ.2.1 6 2))) rfl ?_
    refine an_icmp_ge (pc := 34) (tgt := 64) dX12_said_34 rfl (by omega) (Nat.lt_trans (hb _) (by decide)) (fun h34 => ?_) (fun h34 => ?_)
    · -- 64
      exfalso; omega
    · -- 37
      refine aw_aload_n (pc := 37) (i := 0) dX12_said_37 rfl rfl ?_
      refine aw_iload_n (pc := 38) (i := 3) dX12_said_38 rfl rfl ?_
      refine mc_I (pc := 39) (As := [.int (nI i)]) (rest := []) dX12_said_39 rfl ok_X12_487 rfl rfl rfl (Nat.le_of_ble_eq_true rfl) (s_isSaid hw (by assumption) hsk (saU_lt hu i) ⟨_, _, rfl, rfl, ?_⟩)
      refine aw_top (y := bI (saB (σ.2.1 6) (σ.2.1 56) i)) rfl ?_
      refine aw_ws (w9 := mW G.2.2.1 a (sN σ 56 (saU (σ.2.1 6) (σ.2.1 56) (i + 1)))) rfl ?_
      refine ab_if_ne (pc := 42) (tgt := 48) dX12_said_42 rfl (fun h42 => ?_) (fun h42 => ?_)
      · -- 48
        refine aw_iload_n (pc := 48) (i := 2) dX12_said_48 rfl rfl ?_
        refine aw_iload_n (pc := 49) (i := 1) dX12_said_49 rfl rfl ?_
        refine aw_icmp_ne (pc := 50) (tgt := 55) dX12_said_50 rfl (fun h50 => ?_) (fun h50 => ?_)
        · -- 55
          refine an_inc (pc := 55) (z := 1) dX12_said_55 rfl (Nat.le_of_ble_eq_true rfl) rfl ?_
          refine an_inc (pc := 58) (z := 1) dX12_said_58 rfl (Nat.le_of_ble_eq_true rfl) rfl ?_
          refine aw_goto (pc := 61) (tgt := 27) dX12_said_61 rfl ?_
          exact ih (i + 1) (c + 1) (by omega) (by omega) (by rw [← he, saL, if_pos h42, if_neg h50])
        · -- 53
          refine aw_iload_n (pc := 53) (i := 3) dX12_said_53 rfl rfl ?_
          exact aw_iret (pc := 54) dX12_said_54 rfl (Nat.le_refl _) (Nat.le_refl _) (by rw [← he, saL, if_pos h42, if_pos h50] at kk; exact kk _)
      · -- 45
        refine aw_goto (pc := 45) (tgt := 58) dX12_said_45 rfl ?_
        refine an_inc (pc := 58) (z := 1) dX12_said_58 rfl (Nat.le_of_ble_eq_true rfl) rfl ?_
        refine aw_goto (pc := 61) (tgt := 27) dX12_said_61 rfl ?_
        exact ih (i + 1) c (by omega) (by omega) (by rw [← he, saL, if_neg (by rw [h42]; decide)])
set_option maxHeartbeats 1000000 in
set_option maxRecDepth 20000 in
theorem s_said {G : xG} {d : Nat} {Q : xQ} {a : Nat → Nat} {σ : mS} {x : Int32} (hw : WT (σ.2.1 6)) (hsk : SK (σ.2.1 6)) (hu : ∀ j, σ.2.1 56 j < 2) (kk : ∀ u, Q (some (.int (saidA (σ.2.1 6) (σ.2.1 56) x))) (mW G.2.2.1 a (sN (mI σ 0 (nI 0)) 56 u))) : MT G MX12_said (d + 7) 0 0 [.ref (a 60), .int x] (mW G.2.2.1 a σ) Q := by
  have hb := hw.1
  refine mt_start (L := [some (.ref (a 60)), some (.int x), none, none]) rfl (Nat.le_of_ble_eq_true rfl) rfl ?_
  refine aw_aload_n (pc := 0) (i := 0) dX12_said_0 rfl rfl ?_
  refine aw_iconst (pc := 1) dX12_said_1 iconst_0 ?_
  refine mp_thrown (pc := 2) dX12_said_2 rfl ?_
  refine aw_aload_n (pc := 5) (i := 0) dX12_said_5 rfl rfl ?_
  refine mg_s (pc := 6) dX12_said_6 rfl ?_
  refine aw_sipush (pc := 9) dX12_said_9 sipush_138 ?_
  refine ml_s (pc := 12) dX12_said_12 (by decide) ?_
  refine aw_top (y := (nI (σ.2.1 6 138))) rfl ?_
  refine an_if_eq (pc := 13) (tgt := 21) dX12_said_13 rfl (Nat.lt_trans (hb _) (by decide)) (fun h13 => ?_) (fun h13 => ?_)
  · -- 21
    refine aw_iconst (pc := 21) dX12_said_21 iconst_m1 ?_
    exact aw_iret (pc := 22) dX12_said_22 rfl (Nat.le_refl _) (Nat.le_refl _) (by have := kk (σ.2.1 56); rw [saidA, if_pos h13] at this; exact this)
  · -- 16
    refine aw_iload_n (pc := 16) (i := 1) dX12_said_16 rfl rfl ?_
    refine aw_iconst (pc := 17) dX12_said_17 iconst_m1 ?_
    refine aw_icmp_ge (pc := 18) (tgt := 23) dX12_said_18 rfl (fun h18 => ?_) (fun h18 => ?_)
    · -- 23
      refine aw_iconst (pc := 23) dX12_said_23 iconst_0 ?_
      refine aw_istore_n (pc := 24) (i := 2) dX12_said_24 rfl (Nat.le_of_ble_eq_true rfl) rfl ?_
      refine aw_iconst (pc := 25) dX12_said_25 iconst_0 ?_
      refine aw_istore_n (pc := 26) (i := 3) dX12_said_26 rfl (Nat.le_of_ble_eq_true rfl) rfl ?_
      refine aw_ws (w9 := mW G.2.2.1 a (sN (mI σ 0 (nI 0)) 56 (saU (σ.2.1 6) (σ.2.1 56) 0))) rfl ?_
      exact saidX_loop (σ := mI σ 0 (nI 0)) hw hsk hu kk (σ.2.1 6 2) 0 0 (Nat.zero_add _) (Nat.le_refl _) (by rw [saidA, if_neg (Nat.ne_of_gt h13), if_neg (Int32.not_lt.mpr h18)]; rfl)
    · -- 21
      refine aw_iconst (pc := 21) dX12_said_21 iconst_m1 ?_
      exact aw_iret (pc := 22) dX12_said_22 rfl (Nat.le_refl _) (Nat.le_refl _) (by have := kk (σ.2.1 56); rw [saidA, if_neg (Nat.ne_of_gt h13), if_pos (Int32.not_le.mp h18)] at this; exact this)
