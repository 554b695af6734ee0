section TKW
variable {G : xG} {d : Nat} {Q : xQ} {a ad : Nat → Nat} {κ : kS} {R : va_W} {σ : mS}
theorem c8_tnum {lo hi : Nat} (h : TPR ad κ σ) (hf : κ.1 11 = .int (nI 0)) (hlo : lo < 2 ^ 31) (hhi : hi < 2 ^ 31) (k1 : ∀ m, m < 1000 → lo ≤ m → m ≤ hi → numN σ = m → takesF σ lo hi = (true, nx (mI σ 18 (nI m))) → ∀ κ9, TPR ad κ9 (nx (mI σ 18 (nI m))) → TBs κ κ9 → κ9.1 11 = .int (nI 0) → Q (some (.int (nI m))) (wTp G.2.2.1 a κ9 ++ R)) (k0 : ∀ σ9, takesF σ lo hi = (false, σ9) → ∀ κ9, FRl κ9 σ9 → TBs κ κ9 → Q (some (.int (-1))) (wTp G.2.2.1 a κ9 ++ R)) : MT G MX8_takeNumber (d + 1) 0 0 [.ref (a 13), .int (nI lo), .int (nI hi)] (wTp G.2.2.1 a κ ++ R) Q := by
  refine c8_takeNumber h hf hlo hhi ?_ ?_
  · intro m hm h14 h1 h2 ht κ9 g b f
    have e : takesF σ lo hi = (true, nx (mI σ 18 (nI m))) := by
      unfold takesF at ht ⊢
      split at ht
      · rename_i e1
        split at ht
        · rename_i e2; rw [if_pos e1, if_pos e2, h14]
        · cases ht
      · cases ht
    rw [e] at g
    exact k1 m hm h1 h2 (by unfold numN; rw [h14, nI_clamp (by omega)]) e κ9 g b f
  · intro ht κ9 g b
    exact k0 (takesF σ lo hi).2 (by rw [← ht]) κ9 g b
theorem c8_lhere {c : Nat → Nat} {t : Nat → Nat} {NM : Nat → Int64} {fr : Nat} (h : TPR ad κ σ) (hf : κ.1 11 = .int (nI 0)) (hC : CHR G R c t NM) (hR : RES σ) (hl : t 0 ≤ 7) (hn : ∀ k, k < t 0 → NMR (σ.2.2.2.2 9 (fr + k)) (NM k)) (k1 : ∀ i, i < t 0 → findW σ fr (t 0) = some i → σ.1 11 = nI 1 → looksF σ fr (t 0) = (true, mI σ 18 (nI i)) → Q (some (.int (nI i))) (wTp G.2.2.1 a κ ++ R)) (k0 : ∀ σ9, looksF σ fr (t 0) = (false, σ9) → ∀ κ9, FRl κ9 σ9 → TBs κ κ9 → Q (some (.int (-1))) (wTp G.2.2.1 a κ9 ++ R)) : MT G MX8_landHere (d + 1) 0 0 [.ref (a 13), .ref (c 13)] (wTp G.2.2.1 a κ ++ R) Q := by
  refine c8_landHere h hf hC hR hl hn ?_ ?_
  · intro i hi hw hs
    have hnm : isNameB σ = true := by unfold looksF at hs; split at hs; assumption; cases hs
    refine k1 i hi hw ?_ (by unfold looksF; rw [if_pos hnm, if_pos (by rw [hw]; rfl), hw]; rfl)
    unfold isNameB at hnm
    rw [Bool.and_eq_true, decide_eq_true_eq] at hnm
    exact hnm.1
  · intro hs κ9 g b
    exact k0 (looksF σ fr (t 0)).2 (by rw [← hs]) κ9 g b
theorem c8_phere {c : Nat → Nat} {t : Nat → Nat} {NM : Nat → Int64} {fr : Nat} (h : TPR ad κ σ) (hf : κ.1 11 = .int (nI 0)) (hC : CHR G R c t NM) (hR : RES σ) (hl : t 2 ≤ 6) (hn : ∀ k, k < t 2 → NMR (σ.2.2.2.2 9 (fr + k)) (NM (7 + k))) (k1 : ∀ i, i < t 2 → findW σ fr (t 2) = some i → σ.1 11 = nI 1 → looksF σ fr (t 2) = (true, mI σ 18 (nI i)) → Q (some (.int (nI i))) (wTp G.2.2.1 a κ ++ R)) (k0 : ∀ σ9, looksF σ fr (t 2) = (false, σ9) → ∀ κ9, FRl κ9 σ9 → TBs κ κ9 → Q (some (.int (-1))) (wTp G.2.2.1 a κ9 ++ R)) : MT G MX8_personHere (d + 1) 0 0 [.ref (a 13), .ref (c 13)] (wTp G.2.2.1 a κ ++ R) Q := by
  refine c8_personHere h hf hC hR hl hn ?_ ?_
  · intro i hi hw hs
    have hnm : isNameB σ = true := by unfold looksF at hs; split at hs; assumption; cases hs
    refine k1 i hi hw ?_ (by unfold looksF; rw [if_pos hnm, if_pos (by rw [hw]; rfl), hw]; rfl)
    unfold isNameB at hnm
    rw [Bool.and_eq_true, decide_eq_true_eq] at hnm
    exact hnm.1
  · intro hs κ9 g b
    exact k0 (looksF σ fr (t 2)).2 (by rw [← hs]) κ9 g b
theorem c8_tland {c : Nat → Nat} {t : Nat → Nat} {NM : Nat → Int64} {fr : Nat} (h : TPR ad κ σ) (hf : κ.1 11 = .int (nI 0)) (hC : CHR G R c t NM) (hR : RES σ) (hl : t 0 ≤ 7) (hn : ∀ k, k < t 0 → NMR (σ.2.2.2.2 9 (fr + k)) (NM k)) (k1 : ∀ i, i < t 0 → findW σ fr (t 0) = some i → takesNameF σ fr (t 0) = (true, nx (mI σ 18 (nI i))) → ∀ κ9, TPR ad κ9 (nx (mI σ 18 (nI i))) → TBs κ κ9 → κ9.1 11 = .int (nI 0) → Q (some (.int (nI i))) (wTp G.2.2.1 a κ9 ++ R)) (k0 : ∀ σ9, takesNameF σ fr (t 0) = (false, σ9) → ∀ κ9, FRl κ9 σ9 → TBs κ κ9 → Q (some (.int (-1))) (wTp G.2.2.1 a κ9 ++ R)) : MT G MX8_takeLand (d + 2) 0 0 [.ref (a 13), .ref (c 13)] (wTp G.2.2.1 a κ ++ R) Q := by
  refine c8_takeLand h hf hC hR hl hn ?_ ?_
  · intro i hi hw hs κ9 g b f
    have e : takesNameF σ fr (t 0) = (true, nx (mI σ 18 (nI i))) := by
      unfold takesNameF at hs ⊢
      split at hs
      · rename_i hs2
        have hnm : isNameB σ = true := by unfold looksF at hs2; split at hs2; assumption; cases hs2
        have e9 : (looksF σ fr (t 0)).2 = mI σ 18 (nI i) := by unfold looksF; rw [if_pos hnm, if_pos (by rw [hw]; rfl), hw]; rfl
        rw [if_pos hs2, e9]
      · cases hs
    rw [e] at g
    exact k1 i hi hw e κ9 g b f
  · intro hs κ9 g b
    exact k0 (takesNameF σ fr (t 0)).2 (by rw [← hs]) κ9 g b
end TKW
/-- what reading on leaves as it was -/
def NXF (σ σ' : mS) : Prop := σ'.2.1 = σ.2.1 ∧ σ'.2.2.1 = σ.2.2.1 ∧ σ'.2.2.2.2 = σ.2.2.2.2 ∧ ∀ k, ¬ k = 4 → ¬ k = 11 → ¬ k = 12 → ¬ k = 13 → ¬ k = 14 → ¬ k = 18 → σ'.1 k = σ.1 k
theorem NXF_nx (σ : mS) : NXF σ (nx σ) := ⟨rfl, rfl, rfl, fun k h1 h2 h3 h4 h5 _ => nx_sc σ k ⟨h1, h2, h3, h4, h5⟩⟩
theorem NXF_nx18 (σ : mS) (x : Int32) : NXF σ (nx (mI σ 18 x)) := ⟨rfl, rfl, rfl, fun k h1 h2 h3 h4 h5 h6 => (nx_sc _ k ⟨h1, h2, h3, h4, h5⟩).trans (mI_o _ _ _ _ h6)⟩
theorem NXF_mI18 (σ : mS) (x : Int32) : NXF σ (mI σ 18 x) := ⟨rfl, rfl, rfl, fun k h1 h2 h3 h4 h5 h6 => mI_o _ _ _ _ h6⟩
theorem TPR.tN {ad : Nat → Nat} {κ : kS} {σ : mS} {k i v : Nat} (h : TPR ad κ σ) : TPR ad κ (mN σ k i v) := h.of rfl rfl rfl rfl rfl rfl rfl rfl
theorem TPR.tL {ad : Nat → Nat} {κ : kS} {σ : mS} {k i : Nat} {v : Int64} (h : TPR ad κ σ) : TPR ad κ (mL σ k i v) := h.of rfl rfl rfl rfl rfl rfl rfl rfl
theorem TPR.tI {ad : Nat → Nat} {κ : kS} {σ : mS} {k : Nat} {x : Int32} (h : TPR ad κ σ) (hk : ¬ k = 3 ∧ ¬ k = 4 ∧ ¬ k = 5 ∧ ¬ k = 11 ∧ ¬ k = 12 ∧ ¬ k = 14) : TPR ad κ (mI σ k x) := h.of (mI_o _ _ _ _ (by omega)) (mI_o _ _ _ _ (by omega)) (mI_o _ _ _ _ (by omega)) (mI_o _ _ _ _ (by omega)) (mI_o _ _ _ _ (by omega)) (mI_o _ _ _ _ (by omega)) rfl rfl
theorem RES.to {σ σ' : mS} (h : RES σ) (n : NXF σ σ') : RES σ' := fun k hk => by rw [n.2.2.1]; exact h k hk
theorem RES.tN {σ : mS} {k i v : Nat} (h : RES σ) : RES (mN σ k i v) := h
theorem RES.tI {σ : mS} {k : Nat} {x : Int32} (h : RES σ) : RES (mI σ k x) := h
theorem RES.tL {σ : mS} {i : Nat} {v : Int64} (h : RES σ) : RES (mL σ 9 i v) := h
def N13 (σ : mS) (fr n : Nat) (NM : Nat → Int64) : Prop := ∀ k, k < n → NMR (σ.2.2.2.2 9 (fr + k)) (NM k)
theorem N13.to {σ σ' : mS} {fr n : Nat} {NM : Nat → Int64} (h : N13 σ fr n NM) (x : NXF σ σ') : N13 σ' fr n NM := fun k hk => by rw [x.2.2.1]; exact h k hk
theorem N13.tN {σ : mS} {fr n : Nat} {NM : Nat → Int64} {k i v : Nat} (h : N13 σ fr n NM) : N13 (mN σ k i v) fr n NM := h
theorem N13.tI {σ : mS} {fr n : Nat} {NM : Nat → Int64} {k : Nat} {x : Int32} (h : N13 σ fr n NM) : N13 (mI σ k x) fr n NM := h
theorem N13.tL {σ : mS} {fr n : Nat} {NM : Nat → Int64} {i : Nat} {v : Int64} (h : N13 σ fr n NM) (hi : fr + n ≤ i) : N13 (mL σ 9 i v) fr n NM := fun k hk => by
  show NMR (upN (σ.2.2.2.2 9) i v (fr + k)) _
  rw [upN_n _ _ _ _ (by omega)]; exact h k hk
/-- a state that a map is read into -/
def SMl (c : Nat → Nat) (h : Nat → Nat) (κ : kS) : Prop := κ.1 0 = .ref (c 13) ∧ κ.1 1 = va_rf none ∧ κ.1 4 = .int (nI 0) ∧ κ.1 5 = .int (nI 0) ∧ (∀ l, l < 7 → κ.2.1 2 l = nI (h (17 + l)) ∧ κ.2.1 3 l = nI (h (72 + l))) ∧ (∀ q, q < h 2 → κ.2.1 6 q = nI (h (79 + q)) ∧ κ.2.1 7 q = nI (h (85 + q))) ∧ ∀ q, q < 6 → κ.2.1 8 q = nI 0 ∧ κ.2.1 9 q = nI 0 ∧ κ.2.1 10 q = nI 0
def NMs (σ : mS) (NM : Nat → Int64) : Prop := (∀ k, k < σ.2.1 7 0 → NMR (σ.2.2.2.2 9 (13 + k)) (NM k)) ∧ ∀ k, k < σ.2.1 7 2 → NMR (σ.2.2.2.2 9 (20 + k)) (NM (7 + k))
/-- a map as far as it is read, in both -/
def MRl (ad c : Nat → Nat) (κT κS κC κM : kS) (σ : mS) (NM : Nat → Int64) (li : Nat) : Prop := TPR ad κT σ ∧ κT.1 11 = .int (nI 0) ∧ SMl c (σ.2.1 7) κS ∧ CRl (σ.2.1 7) NM κC ∧ κM.1 2 = .int (nI (storedN σ)) ∧ RES σ ∧ LV σ ∧ NMs σ NM ∧ σ.1 15 = nI 0 ∧ σ.1 19 = nI li
def SHM (κT κS κM κT' κS' κM' : kS) : Prop := TBs κT κT' ∧ κS'.1 11 = κS.1 11 ∧ κM'.1 0 = κM.1 0 ∧ κM'.1 1 = κM.1 1
theorem mbm {X : va_W} {x : Nat × va_E} (h : x ∈ X) {Y : va_W} (e : x ∈ X → x ∈ Y) : x ∈ Y := e h
set_option maxHeartbeats 1000000 in
set_option maxRecDepth 20000 in
theorem c4_isNew {G : xG} {d : Nat} {Q : xQ} {a ad b c mt : Nat → Nat} {κT κS κC κM : kS} {R : va_W} {σ : mS} {NM : Nat → Int64} {to : Nat} (hM0 : κM.1 0 = .ref (a 13)) (hM1 : κM.1 1 = .ref (b 12)) (hT : TPR ad κT σ) (hf : κT.1 11 = .int (nI 0)) (hSm : SMl c (σ.2.1 7) κS) (hCr : CRl (σ.2.1 7) NM κC) (hRes : RES σ) (hMH : MH (σ.2.1 7)) (hNm : NMs σ NM) (k1 : isNameB σ = true → (findW σ 13 (σ.2.1 7 0)).isSome = false → (findW σ 20 (σ.2.1 7 2)).isSome = false → Q (some (.int (bI true))) (wMt G.2.2.1 mt κM ++ (wTp G.2.2.1 a κT ++ (wSt G.2.2.1 b κS ++ (wCh G.2.2.1 c κC ++ R))))) (k0 : (freshF σ to).1 = false → ∀ κT9, FRl κT9 (freshF σ to).2 → TBs κT κT9 → Q (some (.int (bI false))) (wMt G.2.2.1 mt κM ++ (wTp G.2.2.1 a κT9 ++ (wSt G.2.2.1 b κS ++ (wCh G.2.2.1 c κC ++ R))))) : MT G MX4_isNewName (d + 1) 0 0 [.ref (mt 3)] (wMt G.2.2.1 mt κM ++ (wTp G.2.2.1 a κT ++ (wSt G.2.2.1 b κS ++ (wCh G.2.2.1 c κC ++ R)))) Q := by
  have h0 := hMH.2.1
  have h1 := hMH.2.2.1
  have h2 := hMH.2.2.2.1
  obtain ⟨kd, v, r, e8, e9, e10, hr, hkd, tc⟩ := hT.view
  refine mt_start (L := [some (.ref (mt 3)), none]) rfl (Nat.le_of_ble_eq_true rfl) rfl ?_
  refine aw_aload_n (pc := 0) (i := 0) dX4_isNewName_0 rfl rfl ?_
  refine pg_X4_15 (pc := 1) (v := .ref (a 13)) dX4_isNewName_1 rfl hM0 ?_
  refine aw_swap ?_
  refine cVi (pc := 4) (As := []) (rest := []) dX4_isNewName_4 rfl oc_X4_74 rfl rfl (Nat.le_of_ble_eq_true rfl) rfl rfl ovX8 (Nat.le_refl _) (Nat.le_refl _) (c8_atName hT hRes ⟨_, rfl, ?_⟩)
  refine ab_if_ne (pc := 7) (tgt := 19) dX4_isNewName_7 rfl (fun h7 => ?_) (fun h7 => ?_)
  · -- 19
    refine aw_aload_n (pc := 19) (i := 0) dX4_isNewName_19 rfl rfl ?_
    refine aw_swap ?_
    refine pg_X4_19 (pc := 20) (v := .ref (b 12)) dX4_isNewName_20 rfl hM1 ?_
    refine aw_swap3 ?_
    refine pg_X4_77 (pc := 23) (v := .ref (c 13)) dX4_isNewName_23 rfl hSm.1 ?_
    refine aw_aload_n (pc := 26) (i := 0) dX4_isNewName_26 rfl rfl ?_
    refine aw_swap ?_
    refine pg_X4_15 (pc := 27) (v := .ref (a 13)) dX4_isNewName_27 rfl hM0 ?_
    refine aw_swap3 ?_
    refine pg_X4_83 (pc := 30) (v := .long v) dX4_isNewName_30 rfl e9 ?_
    refine aw_swap4 ?_
    refine cVi (pc := 33) (As := [.long v]) (rest := []) dX4_isNewName_33 rfl oc_X4_87 rfl rfl (Nat.le_of_ble_eq_true rfl) rfl rfl ovX3 (Nat.le_refl _) (Nat.le_refl _) (c3_landNamed (hCr.chr h0 h1 h2 (fun x hx => by simp only [List.mem_append]; simp [hx])) h0 ?_ ?_)
    · -- call
      intro qa
      refine ⟨_, rfl, ?_⟩
      rw [findW_eq (tc.nmr ((tc.name hRes).mp h7).1).1 hNm.1] at qa
      refine aw_iconst (pc := 36) dX4_isNewName_36 iconst_m1 ?_
      refine aw_icmp_ne (pc := 37) (tgt := 61) dX4_isNewName_37 rfl (fun h37 => ?_) (fun h37 => ?_)
      · -- 61
        exact absurd rfl h37
      · -- 40
        refine aw_aload_n (pc := 40) (i := 0) dX4_isNewName_40 rfl rfl ?_
        refine aw_swap3 ?_
        refine pg_X4_19 (pc := 41) (v := .ref (b 12)) dX4_isNewName_41 rfl hM1 ?_
        refine aw_swap4 ?_
        refine pg_X4_77 (pc := 44) (v := .ref (c 13)) dX4_isNewName_44 rfl hSm.1 ?_
        refine aw_aload_n (pc := 47) (i := 0) dX4_isNewName_47 rfl rfl ?_
        refine aw_swap ?_
        refine pg_X4_15 (pc := 48) (v := .ref (a 13)) dX4_isNewName_48 rfl hM0 ?_
        refine aw_swap4 ?_
        refine pg_X4_83 (pc := 51) (v := .long v) dX4_isNewName_51 rfl e9 ?_
        refine aw_swap4 ?_
        refine cVi (pc := 54) (As := [.long v]) (rest := []) dX4_isNewName_54 rfl oc_X4_93 rfl rfl (Nat.le_of_ble_eq_true rfl) rfl rfl ovX3 (Nat.le_refl _) (Nat.le_refl _) (c3_personNamed (hCr.chr h0 h1 h2 (fun x hx => by simp only [List.mem_append]; simp [hx])) h2 ?_ ?_)
        · -- call
          intro qb
          refine ⟨_, rfl, ?_⟩
          rw [findW_eq (tc.nmr ((tc.name hRes).mp h7).1).1 hNm.2] at qb
          refine aw_iconst (pc := 57) dX4_isNewName_57 iconst_m1 ?_
          refine aw_icmp_eq (pc := 58) (tgt := 65) dX4_isNewName_58 rfl (fun h58 => ?_) (fun h58 => ?_)
          · -- 65
            refine aw_iconst (pc := 65) dX4_isNewName_65 iconst_0 ?_
            refine aw_istore_n (pc := 66) (i := 1) dX4_isNewName_66 rfl (Nat.le_of_ble_eq_true rfl) rfl ?_
            refine aw_iload_n (pc := 67) (i := 1) dX4_isNewName_67 rfl rfl ?_
            refine an_if_eq (pc := 68) (tgt := 82) dX4_isNewName_68 rfl (by decide) (fun h68 => ?_) (fun h68 => absurd h68 (by decide))
            refine aw_iconst (pc := 82) dX4_isNewName_82 iconst_1 ?_
            refine aw_swap4 ?_
            refine aw_swap3 ?_
            refine aw_swap4 ?_
            exact ab_ret1 (pc := 83) dX4_isNewName_83 rfl (Nat.le_refl _) (Nat.le_refl _) (k1 h7 (by rw [qa]; rfl) (by rw [qb]; rfl))
          · -- 61
            exact absurd rfl h58
        · -- call
          intro ib qb hib
          refine ⟨_, rfl, ?_⟩
          rw [findW_eq (tc.nmr ((tc.name hRes).mp h7).1).1 hNm.2] at qb
          refine aw_iconst (pc := 57) dX4_isNewName_57 iconst_m1 ?_
          refine aw_icmp_eq (pc := 58) (tgt := 65) dX4_isNewName_58 rfl (fun h58 => ?_) (fun h58 => ?_)
          · -- 65
            exact absurd h58 (nI_m1 (by omega))
          · -- 61
            refine aw_iconst (pc := 61) dX4_isNewName_61 iconst_1 ?_
            refine aw_goto (pc := 62) (tgt := 66) dX4_isNewName_62 rfl ?_
            refine aw_istore_n (pc := 66) (i := 1) dX4_isNewName_66 rfl (Nat.le_of_ble_eq_true rfl) rfl ?_
            refine aw_iload_n (pc := 67) (i := 1) dX4_isNewName_67 rfl rfl ?_
            refine an_if_eq (pc := 68) (tgt := 82) dX4_isNewName_68 rfl (by decide) (fun h68 => absurd h68 (by decide)) (fun h68 => ?_)
            refine aw_aload_n (pc := 71) (i := 0) dX4_isNewName_71 rfl rfl ?_
            refine aw_swap3 ?_
            refine pg_X4_15 (pc := 72) (v := .ref (a 13)) dX4_isNewName_72 rfl hM0 ?_
            refine aw_iconst (pc := 75) dX4_isNewName_75 iconst_3 ?_
            refine aw_swap3 ?_
            refine cVi (pc := 76) (As := [.int (nI 3)]) (rest := []) dX4_isNewName_76 rfl oc_X4_44 rfl rfl (Nat.le_of_ble_eq_true rfl) rfl rfl ovX8 (Nat.le_refl _) (Nat.le_refl _) (c8_refuse (σ := σ) hT hf ?_)
            intro κ1 g1 p1 b1
            refine ⟨_, rfl, ?_⟩
            refine aw_goto (pc := 79) (tgt := 83) dX4_isNewName_79 rfl ?_
            refine aw_swap3 ?_
            refine aw_swap4 ?_
            refine aw_swap3 ?_
            refine aw_swap4 ?_
            exact ab_ret (pc := 83) dX4_isNewName_83 rfl (Nat.le_refl _) (Nat.le_refl _) (by have e : freshF σ to = (false, badF σ 3) := (by unfold freshF; rw [if_pos h7, if_neg (by rw [qa]; decide), if_pos (by rw [qb]; rfl)]); exact k0 (by rw [e]) _ (by rw [e]; exact ⟨g1, p1⟩) ((TBs.rf _).tr b1))
    · -- call
      intro ia qa hia
      refine ⟨_, rfl, ?_⟩
      rw [findW_eq (tc.nmr ((tc.name hRes).mp h7).1).1 hNm.1] at qa
      refine aw_iconst (pc := 36) dX4_isNewName_36 iconst_m1 ?_
      refine aw_icmp_ne (pc := 37) (tgt := 61) dX4_isNewName_37 rfl (fun h37 => ?_) (fun h37 => ?_)
      · -- 61
        refine aw_iconst (pc := 61) dX4_isNewName_61 iconst_1 ?_
        refine aw_goto (pc := 62) (tgt := 66) dX4_isNewName_62 rfl ?_
        refine aw_istore_n (pc := 66) (i := 1) dX4_isNewName_66 rfl (Nat.le_of_ble_eq_true rfl) rfl ?_
        refine aw_iload_n (pc := 67) (i := 1) dX4_isNewName_67 rfl rfl ?_
        refine an_if_eq (pc := 68) (tgt := 82) dX4_isNewName_68 rfl (by decide) (fun h68 => absurd h68 (by decide)) (fun h68 => ?_)
        refine aw_aload_n (pc := 71) (i := 0) dX4_isNewName_71 rfl rfl ?_
        refine aw_swap3 ?_
        refine pg_X4_15 (pc := 72) (v := .ref (a 13)) dX4_isNewName_72 rfl hM0 ?_
        refine aw_iconst (pc := 75) dX4_isNewName_75 iconst_3 ?_
        refine aw_swap3 ?_
        refine cVi (pc := 76) (As := [.int (nI 3)]) (rest := []) dX4_isNewName_76 rfl oc_X4_44 rfl rfl (Nat.le_of_ble_eq_true rfl) rfl rfl ovX8 (Nat.le_refl _) (Nat.le_refl _) (c8_refuse (σ := σ) hT hf ?_)
        intro κ1 g1 p1 b1
        refine ⟨_, rfl, ?_⟩
        refine aw_goto (pc := 79) (tgt := 83) dX4_isNewName_79 rfl ?_
        refine aw_swap3 ?_
        refine aw_swap4 ?_
        refine aw_swap3 ?_
        refine aw_swap4 ?_
        exact ab_ret (pc := 83) dX4_isNewName_83 rfl (Nat.le_refl _) (Nat.le_refl _) (by have e : freshF σ to = (false, badF σ 3) := (by unfold freshF; rw [if_pos h7, if_pos (by rw [qa]; rfl)]); exact k0 (by rw [e]) _ (by rw [e]; exact ⟨g1, p1⟩) ((TBs.rf _).tr b1))
      · -- 40
        exact absurd h37 (nI_m1 (by omega))
  · -- 10
    refine aw_aload_n (pc := 10) (i := 0) dX4_isNewName_10 rfl rfl ?_
    refine aw_swap ?_
    refine pg_X4_15 (pc := 11) (v := .ref (a 13)) dX4_isNewName_11 rfl hM0 ?_
    refine aw_iconst (pc := 14) dX4_isNewName_14 iconst_1 ?_
    refine aw_swap ?_
    refine cVi (pc := 15) (As := [.int (nI 1)]) (rest := []) dX4_isNewName_15 rfl oc_X4_44 rfl rfl (Nat.le_of_ble_eq_true rfl) rfl rfl ovX8 (Nat.le_refl _) (Nat.le_refl _) (c8_refuse (σ := σ) hT hf ?_)
    intro κ1 g1 p1 b1
    refine ⟨_, rfl, ?_⟩
    refine aw_swap4 ?_
    refine aw_swap4 ?_
    refine aw_swap3 ?_
    refine aw_swap4 ?_
    exact ab_ret (pc := 18) dX4_isNewName_18 rfl (Nat.le_refl _) (Nat.le_refl _) (by have e : freshF σ to = (false, badF σ 1) := (by unfold freshF; rw [if_neg (by rw [h7]; decide)]); exact k0 (by rw [e]) _ (by rw [e]; exact ⟨g1, p1⟩) ((TBs.rf _).tr b1))
