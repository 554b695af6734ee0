theorem kF_id (κ : kS) (k : Nat) : kF κ k (κ.1 k) = κ := by
  have e : upN κ.1 k (κ.1 k) = κ.1 := by funext j; unfold upN; split; rename_i h; rw [h]; rfl
  unfold kF; rw [e]
/-- what a line hands to an act -/
def ARG (k x y n : Nat) (va vb vn : Int32) : Prop := (k ≤ 5 → va = nI x) ∧ (k ≤ 2 ∨ k = 5 → vb = nI y) ∧ (k = 5 → vn = nI n) ∧ (k = 6 → vn = nI x)
theorem c7_whyQ {G : xG} {d : Nat} {Q : xQ} {ws : va_W} {b c : Nat → Nat} {t : Nat → Nat} {NM : Nat → Int64} {sn : Option Nat} {k x y n : Nat} {va vb vn : Int32} (hN : NB G) (hS : STR G ws b c sn t) (hC : CHR G ws c t NM) (hw : WT t) (hok : lnOK t k x y n) (har : ARG k x y n va vb vn) (kk : Q (some (.int (nI (doesN t k x y n)))) ws) : MT G MX7_whyNot (d + 3) 0 0 [.ref (b 12), .int (nI k), .int va, .int vb, .int vn] ws Q := by
  obtain ⟨hk, o0, o1, o3, o5, o6⟩ := hok
  obtain ⟨r1, r2, r3, r4⟩ := har
  rcases (show k = 0 ∨ k = 1 ∨ k = 2 ∨ k = 3 ∨ k = 4 ∨ k = 5 ∨ k = 6 by omega) with rfl | rfl | rfl | rfl | rfl | rfl | rfl
  · rw [r1 (by decide), r2 (by decide)]; exact c7_why0 hN hS hC hw (o0 rfl).1 (o0 rfl).2 kk
  · rw [r1 (by decide), r2 (by decide)]; exact c7_why1 (d := d + 2) hN hS hC hw (o1 (by decide)).1 (o1 (by decide)).2 kk
  · rw [r1 (by decide), r2 (by decide)]; exact c7_why2 (d := d + 2) hN hS hC hw (o1 (by decide)).1 (o1 (by decide)).2 kk
  · rw [r1 (by decide)]; exact c7_why3 (d := d + 2) hN hS hC hw (o3 (by decide)) kk
  · rw [r1 (by decide)]; exact c7_why4 (d := d + 2) hN hS hC hw (o3 (by decide)) kk
  · rw [r1 (by decide), r2 (by decide), r3 rfl]; exact c7_why5 (d := d + 3) hS hC hw (o1 (by decide)).1 (o1 (by decide)).2 (o5 rfl).2 kk
  · rw [r4 rfl]; exact c7_why6 (d := d + 3) hS hC hw (o6 rfl).2 kk
theorem c7_doQ {G : xG} {d : Nat} {Q : xQ} {b c : Nat → Nat} {t : Nat → Nat} {NM : Nat → Int64} {sn : Option Nat} {sd : Int32} {κ : kS} {R : va_W} {k x y n B : Nat} {va vb vn : Int32} (hN : NB G) (h : SRl c sn t sd κ) (hC : CHR G R c t NM) (hw : WT t) (hB : 500 ≤ B) (H : WV t B) (hok : lnOK t k x y n) (har : ARG k x y n va vb vn) (h0 : doesN t k x y n = 0) (kk : ∀ κ9, SRl c sn (doesT t k x y n) sd κ9 → Q none (wSt G.2.2.1 b κ9 ++ R)) : MT G MX7_perform (d + 3) 0 0 [.ref (b 12), .int (nI k), .int va, .int vb, .int vn] (wSt G.2.2.1 b κ ++ R) Q := by
  obtain ⟨hk, o0, o1, o3, o5, o6⟩ := hok
  obtain ⟨r1, r2, r3, r4⟩ := har
  rcases (show k = 0 ∨ k = 1 ∨ k = 2 ∨ k = 3 ∨ k = 4 ∨ k = 5 ∨ k = 6 by omega) with rfl | rfl | rfl | rfl | rfl | rfl | rfl
  · rw [r1 (by decide), r2 (by decide)]; exact c7_do0 hN h hC hw (o0 rfl).1 (o0 rfl).2 h0 kk
  · rw [r1 (by decide), r2 (by decide)]; exact c7_do1 (d := d + 3) h hC hw (o1 (by decide)).1 (o1 (by decide)).2 kk
  · rw [r1 (by decide), r2 (by decide)]
    refine c7_do2 (d := d + 3) h hC hw (o1 (by decide)).1 (o1 (by decide)).2 ?_ kk
    have h0 : (if (t (101 + x)).testBit y = true then 0 else 1) = 0 := h0
    split at h0
    · assumption
    · cases h0
  · rw [r1 (by decide)]; exact c7_do3 (d := d + 2) h hC hw (o3 (by decide)) kk
  · rw [r1 (by decide)]; exact c7_do4 (d := d + 2) h hC hw (o3 (by decide)) kk
  · rw [r1 (by decide), r2 (by decide), r3 rfl]
    have h0 : whyLendF t x y n = 0 := h0
    unfold whyLendF at h0
    have q : ¬ x = y ∧ n ≤ t (94 + x) := by
      by_cases e1 : x = y
      · rw [if_pos e1] at h0; cases h0
      · rw [if_neg e1] at h0
        by_cases e2 : t (94 + x) < n
        · rw [if_pos e2] at h0; cases h0
        · exact ⟨e1, by omega⟩
    exact c7_do5 (d := d + 3) h hC hw (o1 (by decide)).1 (o1 (by decide)).2 q.1 q.2 kk
  · rw [r4 rfl]
    have h0 : (if 400 < t 91 + x then 1 else 0) = 0 := h0
    exact c7_do6 h hC hw hB H (by split at h0; cases h0; omega) kk
theorem LNq.arg {κ : kS} {rd : Nat → Nat} {i : Nat} (h : LNq κ rd i) : ARG (rd (4 * i)) (rd (4 * i + 1)) (rd (4 * i + 2)) (rd (4 * i + 3)) (κ.2.1 3 i) (κ.2.1 4 i) (κ.2.1 5 i) := ⟨h.2.1, h.2.2.1, h.2.2.2.1, h.2.2.2.2⟩
set_option maxHeartbeats 1000000 in
set_option maxRecDepth 20000 in
theorem live_loop {G : xG} {d : Nat} {Q : xQ} {bk b c : Nat → Nat} {κB : kS} {R : va_W} {NM : Nat → Int64} {sn : Option Nat} {sd : Int32} {rd : Nat → Nat} {m : Nat} (hNB : NB G) (hB6 : κB.1 6 = .int (nI m)) (hm : m ≤ 40) (hB7 : κB.1 7 = .int (nI 0)) (hLn : ∀ i, i < m → LNq κB rd i) : ∀ (n i B : Nat) (u : Nat → Nat) (κS : kS) (o3 : Option Value), i + n = m → WV u B → B + 99 * n ≤ 2 ^ 29 → 4096 ≤ B → (∀ i, i < m → lnOK u (rd (4 * i)) (rd (4 * i + 1)) (rd (4 * i + 2)) (rd (4 * i + 3))) → SRl c sn u sd κS → CHR G R c u NM → (∀ κS9, SRl c sn (liv rd n i u).2.2.2 sd κS9 → Q (some (.int (nI (liv rd n i u).2.1))) (wBk G.2.2.1 bk (kF κB 7 (.int (nI (liv rd n i u).1))) ++ (wSt G.2.2.1 b κS9 ++ R))) → AW G MX1_live (d + 4) 0 0 Q 7 [some (.ref (bk 8)), some (.ref (b 12)), some (.int (nI i)), o3] [] (wBk G.2.2.1 bk κB ++ (wSt G.2.2.1 b κS ++ R)) 0 0 := by
  intro n
  induction n with
  | zero =>
    intro i B u κS o3 hi HW hb hb5 hOk hSR hC kk
    refine aw_iload_n (pc := 7) (i := 2) dX1_live_7 rfl rfl ?_
    refine aw_aload_n (pc := 8) (i := 0) dX1_live_8 rfl rfl ?_
    refine pg_X1_24 (pc := 9) (v := .int (nI m)) dX1_live_9 rfl hB6 ?_
    refine an_icmp_ge (pc := 12) (tgt := 105) dX1_live_12 rfl (by omega) (by omega) (fun h12 => ?_) (fun h12 => ?_)
    · -- 105
      refine aw_aload_n (pc := 105) (i := 0) dX1_live_105 rfl rfl ?_
      refine pg_X1_24 (pc := 106) (v := .int (nI m)) dX1_live_106 rfl hB6 ?_
      refine aw_iret (pc := 109) dX1_live_109 rfl (Nat.le_refl _) (Nat.le_refl _) ?_
      have e : i = m := by omega
      have e2 : wBk G.2.2.1 bk κB = wBk G.2.2.1 bk (kF κB 7 (.int (nI 0))) := by rw [← hB7]; exact congrArg (wBk G.2.2.1 bk) (kF_id κB 7).symm
      rw [e2, ← e]
      exact kk _ hSR
    · -- 15
      exfalso; omega
  | succ n ih =>
    intro i B u κS o3 hi HW hb hb5 hOk hSR hC kk
    have hw := HW.1.1
    obtain ⟨hbb, h0, h1, h2, -⟩ := id hw
    have hdn := doesN_le u (rd (4 * i)) (rd (4 * i + 1)) (rd (4 * i + 2)) (rd (4 * i + 3))
    have hk6 := (hOk i (by omega)).1
    refine aw_iload_n (pc := 7) (i := 2) dX1_live_7 rfl rfl ?_
    refine aw_aload_n (pc := 8) (i := 0) dX1_live_8 rfl rfl ?_
    refine pg_X1_24 (pc := 9) (v := .int (nI m)) dX1_live_9 rfl hB6 ?_
    refine an_icmp_ge (pc := 12) (tgt := 105) dX1_live_12 rfl (by omega) (by omega) (fun h12 => ?_) (fun h12 => ?_)
    · -- 105
      exfalso; omega
    · -- 15
      refine aw_iload_n (pc := 15) (i := 2) dX1_live_15 rfl rfl ?_
      refine aw_bipush (pc := 16) dX1_live_16 bipush_40 ?_
      refine an_icmp_ge (pc := 18) (tgt := 105) dX1_live_18 rfl (by omega) (by decide) (fun h18 => ?_) (fun h18 => ?_)
      · -- 105
        exfalso; omega
      · -- 21
        refine aw_aload_n (pc := 21) (i := 1) dX1_live_21 rfl rfl ?_
        refine aw_aload_n (pc := 22) (i := 0) dX1_live_22 rfl rfl ?_
        refine pg_X1_9 (pc := 23) dX1_live_23 rfl ?_
        refine aw_iload_n (pc := 26) (i := 2) dX1_live_26 rfl rfl ?_
        refine pl_X1_act (pc := 27) (x := (nI (rd (4 * i)))) dX1_live_27 (by omega) (hLn i (by omega)).1 ?_
        refine aw_aload_n (pc := 28) (i := 0) dX1_live_28 rfl rfl ?_
        refine pg_X1_15 (pc := 29) dX1_live_29 rfl ?_
        refine aw_iload_n (pc := 32) (i := 2) dX1_live_32 rfl rfl ?_
        refine pl_X1_first (pc := 33) (x := (κB.2.1 3 i)) dX1_live_33 (by omega) rfl ?_
        refine aw_aload_n (pc := 34) (i := 0) dX1_live_34 rfl rfl ?_
        refine pg_X1_18 (pc := 35) dX1_live_35 rfl ?_
        refine aw_iload_n (pc := 38) (i := 2) dX1_live_38 rfl rfl ?_
        refine pl_X1_second (pc := 39) (x := (κB.2.1 4 i)) dX1_live_39 (by omega) rfl ?_
        refine aw_aload_n (pc := 40) (i := 0) dX1_live_40 rfl rfl ?_
        refine pg_X1_21 (pc := 41) dX1_live_41 rfl ?_
        refine aw_iload_n (pc := 44) (i := 2) dX1_live_44 rfl rfl ?_
        refine pl_X1_amount (pc := 45) (x := (κB.2.1 5 i)) dX1_live_45 (by omega) rfl ?_
        refine aw_swap ?_
        refine cVi (pc := 46) (As := [.int (nI (rd (4 * i))), .int (κB.2.1 3 i), .int (κB.2.1 4 i), .int (κB.2.1 5 i)]) (rest := []) dX1_live_46 rfl oc_X1_113 rfl rfl (Nat.le_of_ble_eq_true rfl) rfl rfl ovX7 (Nat.le_refl _) (Nat.le_refl _) (c7_whyQ (x := rd (4 * i + 1)) (y := rd (4 * i + 2)) (n := rd (4 * i + 3)) hNB (hSR.str h0 h2) (hC.sub (fun x hx => by simp only [List.mem_append]; simp [hx])) hw (hOk i (by omega)) (hLn i (by omega)).arg ⟨_, rfl, ?_⟩)
        refine aw_istore_n (pc := 49) (i := 3) dX1_live_49 rfl (Nat.le_of_ble_eq_true rfl) rfl ?_
        refine aw_iload_n (pc := 50) (i := 3) dX1_live_50 rfl rfl ?_
        refine an_if_eq (pc := 51) (tgt := 71) dX1_live_51 rfl (by omega) (fun h51 => ?_) (fun h51 => ?_)
        · -- 71
          refine aw_aload_n (pc := 71) (i := 1) dX1_live_71 rfl rfl ?_
          refine aw_aload_n (pc := 72) (i := 0) dX1_live_72 rfl rfl ?_
          refine aw_swap ?_
          refine pg_X1_9 (pc := 73) dX1_live_73 rfl ?_
          refine aw_iload_n (pc := 76) (i := 2) dX1_live_76 rfl rfl ?_
          refine pl_X1_act (pc := 77) (x := (nI (rd (4 * i)))) dX1_live_77 (by omega) (hLn i (by omega)).1 ?_
          refine aw_aload_n (pc := 78) (i := 0) dX1_live_78 rfl rfl ?_
          refine pg_X1_15 (pc := 79) dX1_live_79 rfl ?_
          refine aw_iload_n (pc := 82) (i := 2) dX1_live_82 rfl rfl ?_
          refine pl_X1_first (pc := 83) (x := (κB.2.1 3 i)) dX1_live_83 (by omega) rfl ?_
          refine aw_aload_n (pc := 84) (i := 0) dX1_live_84 rfl rfl ?_
          refine pg_X1_18 (pc := 85) dX1_live_85 rfl ?_
          refine aw_iload_n (pc := 88) (i := 2) dX1_live_88 rfl rfl ?_
          refine pl_X1_second (pc := 89) (x := (κB.2.1 4 i)) dX1_live_89 (by omega) rfl ?_
          refine aw_aload_n (pc := 90) (i := 0) dX1_live_90 rfl rfl ?_
          refine pg_X1_21 (pc := 91) dX1_live_91 rfl ?_
          refine aw_iload_n (pc := 94) (i := 2) dX1_live_94 rfl rfl ?_
          refine pl_X1_amount (pc := 95) (x := (κB.2.1 5 i)) dX1_live_95 (by omega) rfl ?_
          refine aw_swap ?_
          refine cVv (pc := 96) (As := [.int (nI (rd (4 * i))), .int (κB.2.1 3 i), .int (κB.2.1 4 i), .int (κB.2.1 5 i)]) (rest := []) dX1_live_96 rfl oc_X1_119 rfl rfl (Nat.le_of_ble_eq_true rfl) rfl rfl ovX7 (Nat.le_refl _) (Nat.le_refl _) (c7_doQ (x := rd (4 * i + 1)) (y := rd (4 * i + 2)) (n := rd (4 * i + 3)) hNB hSR (hC.sub (fun x hx => by simp only [List.mem_append]; simp [hx])) hw (by omega) HW (hOk i (by omega)) (hLn i (by omega)).arg (by omega) ?_)
          intro κS8 hS8
          refine ⟨rfl, ?_⟩
          refine an_inc (pc := 99) (z := 1) dX1_live_99 rfl (Nat.le_of_ble_eq_true rfl) rfl ?_
          refine aw_goto (pc := 102) (tgt := 7) dX1_live_102 rfl ?_
          refine aw_swap ?_
          have eA : doesA u (rd (4 * i)) (rd (4 * i + 1)) (rd (4 * i + 2)) (rd (4 * i + 3)) = 0 := by unfold doesA; rw [if_pos (by omega)]
          have eS : doesS u (rd (4 * i)) (rd (4 * i + 1)) (rd (4 * i + 2)) (rd (4 * i + 3)) = doesT u (rd (4 * i)) (rd (4 * i + 1)) (rd (4 * i + 2)) (rd (4 * i + 3)) := by unfold doesS; rw [if_pos (by omega)]
          have el : liv rd (n + 1) i u = liv rd n (i + 1) (doesS u (rd (4 * i)) (rd (4 * i + 1)) (rd (4 * i + 2)) (rd (4 * i + 3))) := by rw [liv, if_pos eA]
          rw [el] at kk
          obtain ⟨d1, d2⟩ := WV_does HW (by omega) hb5 (hOk i (by omega))
          rw [← eS] at hS8
          generalize doesS u (rd (4 * i)) (rd (4 * i + 1)) (rd (4 * i + 2)) (rd (4 * i + 3)) = u9 at *
          exact ih (i + 1) (B + 99) u9 κS8 _ (by omega) d1 (by omega) (by omega) (fun k hk => lnOK_of (hOk k hk) (d2 0 (by omega)) (d2 2 (by omega))) hS8 (hC.to (fun j hj => d2 j (by omega)) h0 h1 h2) kk
        · -- 54
          refine aw_aload_n (pc := 54) (i := 0) dX1_live_54 rfl rfl ?_
          refine aw_aload_n (pc := 55) (i := 0) dX1_live_55 rfl rfl ?_
          refine aw_swap ?_
          refine pg_X1_9 (pc := 56) dX1_live_56 rfl ?_
          refine aw_iload_n (pc := 59) (i := 2) dX1_live_59 rfl rfl ?_
          refine pl_X1_act (pc := 60) (x := (nI (rd (4 * i)))) dX1_live_60 (by omega) (hLn i (by omega)).1 ?_
          refine aw_bipush (pc := 61) dX1_live_61 bipush_10 ?_
          refine an_mul (pc := 63) dX1_live_63 ?_
          refine aw_iload_n (pc := 64) (i := 3) dX1_live_64 rfl rfl ?_
          refine an_add (pc := 65) dX1_live_65 ?_
          refine pp_X1_28 (pc := 66) dX1_live_66 rfl ?_
          refine aw_iload_n (pc := 69) (i := 2) dX1_live_69 rfl rfl ?_
          refine aw_iret (pc := 70) dX1_live_70 rfl (Nat.le_refl _) (Nat.le_refl _) ?_
          have e : doesA u (rd (4 * i)) (rd (4 * i + 1)) (rd (4 * i + 2)) (rd (4 * i + 3)) = rd (4 * i) * 10 + doesN u (rd (4 * i)) (rd (4 * i + 1)) (rd (4 * i + 2)) (rd (4 * i + 3)) := by unfold doesA; rw [if_neg (by omega), Nat.mul_comm]
          have el : liv rd (n + 1) i u = (doesA u (rd (4 * i)) (rd (4 * i + 1)) (rd (4 * i + 2)) (rd (4 * i + 3)), i, nI i, u) := by rw [liv, if_neg (by omega)]
          rw [el, e] at kk
          exact kk _ hSR
set_option maxHeartbeats 1000000 in
set_option maxRecDepth 20000 in
theorem c1_live {G : xG} {d : Nat} {Q : xQ} {bk b c : Nat → Nat} {κB κS : kS} {R : va_W} {NM : Nat → Int64} {sn : Option Nat} {sd : Int32} {rd : Nat → Nat} {m B : Nat} {t : Nat → Nat} (hNB : NB G) (hB6 : κB.1 6 = .int (nI m)) (hm : m ≤ 40) (hLn : ∀ i, i < m → LNq κB rd i) (HW : WV t B) (hb : B + 99 * 40 ≤ 2 ^ 29) (hb5 : 4096 ≤ B) (hOk : ∀ i, i < m → lnOK t (rd (4 * i)) (rd (4 * i + 1)) (rd (4 * i + 2)) (rd (4 * i + 3))) (hSR : SRl c sn t sd κS) (hC : CHR G R c t NM) (kk : ∀ κS9 κB9, SRl c sn (liv rd m 0 t).2.2.2 sd κS9 → κB9.1 7 = .int (nI (liv rd m 0 t).1) → κB9.1 0 = κB.1 0 → κB9.1 1 = κB.1 1 → Q (some (.int (nI (liv rd m 0 t).2.1))) (wBk G.2.2.1 bk κB9 ++ (wSt G.2.2.1 b κS9 ++ R))) : MT G MX1_live (d + 4) 0 0 [.ref (bk 8), .ref (b 12)] (wBk G.2.2.1 bk κB ++ (wSt G.2.2.1 b κS ++ R)) Q := by
  refine mt_start (L := [some (.ref (bk 8)), some (.ref (b 12)), none, none]) rfl (Nat.le_of_ble_eq_true rfl) rfl ?_
  refine aw_aload_n (pc := 0) (i := 0) dX1_live_0 rfl rfl ?_
  refine aw_iconst (pc := 1) dX1_live_1 iconst_0 ?_
  refine pp_X1_28 (pc := 2) dX1_live_2 rfl ?_
  refine aw_iconst (pc := 5) dX1_live_5 iconst_0 ?_
  refine aw_istore_n (pc := 6) (i := 2) dX1_live_6 rfl (Nat.le_of_ble_eq_true rfl) rfl ?_
  exact live_loop (κB := kF κB 7 (.int (nI 0))) (rd := rd) hNB hB6 hm rfl hLn m 0 B t κS _ (by omega) HW (by omega) hb5 hOk hSR hC (fun κS9 h9 => kk κS9 _ h9 rfl rfl rfl)
