def piv (o : Nat → Nat) : Nat → Option Nat
  | 0 => none
  | i + 1 => if o (i + 1) < o i then piv o i else some i
def jF (o : Nat → Nat) (x : Nat) : Nat → Nat
  | 0 => 0
  | j + 1 => if o (j + 1) < x then jF o x j else j + 1
def sw (o : Nat → Nat) (i j : Nat) : Nat → Nat := upN (upN o i (o j)) j (o i)
def rv : Nat → (Nat → Nat) → Nat → Nat → (Nat → Nat)
  | 0, o, _, _ => o
  | f + 1, o, lo, hi => if lo < hi then rv f (sw o lo hi) (lo + 1) (hi - 1) else o
def ro (o : Nat → Nat) (n i : Nat) : Nat → Nat := rv n (sw o i (jF o (o i) (n - 1))) (i + 1) (n - 1)
theorem piv_some {o : Nat → Nat} : ∀ e i, piv o e = some i → i < e ∧ o i ≤ o (i + 1) := by
  intro e
  induction e with
  | zero => intro i h; cases h
  | succ e ih =>
    intro i h
    rw [piv] at h
    split at h
    · have := ih i h; exact ⟨by omega, this.2⟩
    · cases h; exact ⟨by omega, by omega⟩
theorem jF_in {o : Nat → Nat} {x i : Nat} (hx : x ≤ o (i + 1)) : ∀ j, i + 1 ≤ j → i + 1 ≤ jF o x j ∧ jF o x j ≤ j := by
  intro j
  induction j with
  | zero => intro h; omega
  | succ j ih =>
    intro h
    rw [jF]
    split
    · have hj : i + 1 ≤ j := by
        rcases Nat.lt_or_ge i j with q | q
        · exact q
        · have : j = i := by omega
          subst this; omega
      have := ih hj; omega
    · omega
theorem sw_lt {o : Nat → Nat} {n i j B : Nat} (hi : i < n) (hj : j < n) (h : ∀ k, k < n → o k < B) : ∀ k, k < n → sw o i j k < B := by
  intro k hk
  unfold sw
  by_cases e1 : k = j
  · subst e1; rw [upN_s]; exact h _ hi
  · rw [upN_n _ _ _ _ e1]
    by_cases e2 : k = i
    · subst e2; rw [upN_s]; exact h _ hj
    · rw [upN_n _ _ _ _ e2]; exact h _ hk

set_option maxHeartbeats 1000000 in
set_option maxRecDepth 20000 in
theorem ro_rv {G : xG} {d : Nat} {Q : xQ} {a : Nat → Nat} {σ : mS} {n : Nat} {i j B : Nat} (hn : n ≤ 6) (hB : B ≤ 2 ^ 31) {Of : Nat → Nat} (kk : Q (some (.int (bI true))) (mW G.2.2.1 a (sN σ 39 Of))) : ∀ (f : Nat) (o : Nat → Nat) (y lo hi : Nat), hi < n → n ≤ hi + lo ∨ True → hi < lo + f → (∀ k, k < n → o k < B) → rv f o lo hi = Of → lo ≤ n → 1 ≤ lo → AW G MX12_reorders d 0 0 Q 100 [some (.ref (a 60)), some (.int (nI n)), some (.int (nI i)), some (.int (nI j)), some (.int (nI y)), some (.int (nI lo)), some (.int (nI hi))] [] (mW G.2.2.1 a (sN σ 39 o)) 0 0 := by
  intro f
  induction f with
  | zero =>
    intro o y lo hi hh _ hf ho he hlo hl1
    refine aw_iload (pc := 100) dX12_reorders_100 rfl ?_
    refine aw_iload (pc := 102) dX12_reorders_102 rfl ?_
    refine an_icmp_ge (pc := 104) (tgt := 148) dX12_reorders_104 rfl (by omega) (by omega) (fun h104 => ?_) (fun h104 => ?_)
    · -- 148
      have he : o = Of := he
      subst he
      refine aw_iconst (pc := 148) dX12_reorders_148 iconst_1 ?_
      exact ab_ret1 (pc := 149) dX12_reorders_149 rfl (Nat.le_refl _) (Nat.le_refl _) (kk)
    · -- 107
      exfalso; omega
  | succ f ih =>
    intro o y lo hi hh _ hf ho he hlo hl1
    refine aw_iload (pc := 100) dX12_reorders_100 rfl ?_
    refine aw_iload (pc := 102) dX12_reorders_102 rfl ?_
    refine an_icmp_ge (pc := 104) (tgt := 148) dX12_reorders_104 rfl (by omega) (by omega) (fun h104 => ?_) (fun h104 => ?_)
    · -- 148
      rw [rv, if_neg (by omega)] at he
      subst he
      refine aw_iconst (pc := 148) dX12_reorders_148 iconst_1 ?_
      exact ab_ret1 (pc := 149) dX12_reorders_149 rfl (Nat.le_refl _) (Nat.le_refl _) (kk)
    · -- 107
      refine aw_aload_n (pc := 107) (i := 0) dX12_reorders_107 rfl rfl ?_
      refine mg_order (pc := 108) dX12_reorders_108 rfl ?_
      refine aw_iload (pc := 111) dX12_reorders_111 rfl ?_
      refine ml_order (pc := 113) dX12_reorders_113 (by omega) ?_
      refine aw_top (y := (nI (o lo))) rfl ?_
      refine aw_istore (pc := 114) (i := 4) dX12_reorders_114 (Nat.le_of_ble_eq_true rfl) rfl ?_
      refine aw_aload_n (pc := 116) (i := 0) dX12_reorders_116 rfl rfl ?_
      refine mg_order (pc := 117) dX12_reorders_117 rfl ?_
      refine aw_iload (pc := 120) dX12_reorders_120 rfl ?_
      refine aw_aload_n (pc := 122) (i := 0) dX12_reorders_122 rfl rfl ?_
      refine mg_order (pc := 123) dX12_reorders_123 rfl ?_
      refine aw_iload (pc := 126) dX12_reorders_126 rfl ?_
      refine ml_order (pc := 128) dX12_reorders_128 (by omega) ?_
      refine aw_top (y := (nI (o hi))) rfl ?_
      refine ms_order (pc := 129) dX12_reorders_129 (by omega) ?_
      refine aw_aload_n (pc := 130) (i := 0) dX12_reorders_130 rfl rfl ?_
      refine mg_order (pc := 131) dX12_reorders_131 rfl ?_
      refine aw_iload (pc := 134) dX12_reorders_134 rfl ?_
      refine aw_iload (pc := 136) dX12_reorders_136 rfl ?_
      refine ms_order (pc := 138) dX12_reorders_138 (by omega) ?_
      refine an_inc (pc := 139) (z := 1) dX12_reorders_139 rfl (Nat.le_of_ble_eq_true rfl) rfl ?_
      refine an_dec (pc := 142) (v := (-1 : Int32)) (y := nI (hi - 1)) dX12_reorders_142 rfl (by decide) (nI_dec (by omega)) (Nat.le_of_ble_eq_true rfl) rfl ?_
      refine aw_goto (pc := 145) (tgt := 100) dX12_reorders_145 rfl ?_
      rw [rv, if_pos h104] at he
      refine aw_ws (w9 := mW G.2.2.1 a (sN σ 39 (sw o lo hi))) rfl ?_
      exact ih (sw o lo hi) (o lo) (lo + 1) (hi - 1) (by omega) (Or.inr trivial) (by omega) (sw_lt (by omega) hh ho) he (by omega) (by omega)
set_option maxHeartbeats 1000000 in
set_option maxRecDepth 20000 in
theorem ro_j {G : xG} {d : Nat} {Q : xQ} {a : Nat → Nat} {σ : mS} {n : Nat} {i B : Nat} {o : Nat → Nat} (hn : n ≤ 6) (hB : B ≤ 2 ^ 31) (ho : ∀ k, k < n → o k < B) (hi : i + 1 < n) (hx : o i ≤ o (i + 1)) (kk : Q (some (.int (bI true))) (mW G.2.2.1 a (sN σ 39 (ro o n i)))) : ∀ (m j : Nat), j = i + 1 + m → j < n → jF o (o i) j = jF o (o i) (n - 1) → AW G MX12_reorders d 0 0 Q 41 [some (.ref (a 60)), some (.int (nI n)), some (.int (nI i)), some (.int (nI j)), none, none, none] [] (mW G.2.2.1 a (sN σ 39 o)) 0 0 := by
  intro m
  induction m with
  | zero =>
    intro j hj hjn he
    refine aw_aload_n (pc := 41) (i := 0) dX12_reorders_41 rfl rfl ?_
    refine mg_order (pc := 42) dX12_reorders_42 rfl ?_
    refine aw_iload_n (pc := 45) (i := 3) dX12_reorders_45 rfl rfl ?_
    refine ml_order (pc := 46) dX12_reorders_46 (by omega) ?_
    refine aw_top (y := (nI (o j))) rfl ?_
    refine aw_aload_n (pc := 47) (i := 0) dX12_reorders_47 rfl rfl ?_
    refine mg_order (pc := 48) dX12_reorders_48 rfl ?_
    refine aw_iload_n (pc := 51) (i := 2) dX12_reorders_51 rfl rfl ?_
    refine ml_order (pc := 52) dX12_reorders_52 (by omega) ?_
    refine aw_top (y := (nI (o i))) rfl ?_
    refine an_icmp_ge (pc := 53) (tgt := 62) dX12_reorders_53 rfl (Nat.lt_of_lt_of_le (ho _ (by omega)) hB) (Nat.lt_of_lt_of_le (ho _ (by omega)) hB) (fun h53 => ?_) (fun h53 => ?_)
    · -- 62
      have hjj : jF o (o i) (n - 1) = j := by rw [← he, show j = (j - 1) + 1 by omega, jF, if_neg (by rw [show j - 1 + 1 = j by omega]; omega)]
      refine aw_aload_n (pc := 62) (i := 0) dX12_reorders_62 rfl rfl ?_
      refine mg_order (pc := 63) dX12_reorders_63 rfl ?_
      refine aw_iload_n (pc := 66) (i := 2) dX12_reorders_66 rfl rfl ?_
      refine ml_order (pc := 67) dX12_reorders_67 (by omega) ?_
      refine aw_top (y := (nI (o i))) rfl ?_
      refine aw_istore (pc := 68) (i := 4) dX12_reorders_68 (Nat.le_of_ble_eq_true rfl) rfl ?_
      refine aw_aload_n (pc := 70) (i := 0) dX12_reorders_70 rfl rfl ?_
      refine mg_order (pc := 71) dX12_reorders_71 rfl ?_
      refine aw_iload_n (pc := 74) (i := 2) dX12_reorders_74 rfl rfl ?_
      refine aw_aload_n (pc := 75) (i := 0) dX12_reorders_75 rfl rfl ?_
      refine mg_order (pc := 76) dX12_reorders_76 rfl ?_
      refine aw_iload_n (pc := 79) (i := 3) dX12_reorders_79 rfl rfl ?_
      refine ml_order (pc := 80) dX12_reorders_80 (by omega) ?_
      refine aw_top (y := (nI (o j))) rfl ?_
      refine ms_order (pc := 81) dX12_reorders_81 (by omega) ?_
      refine aw_aload_n (pc := 82) (i := 0) dX12_reorders_82 rfl rfl ?_
      refine mg_order (pc := 83) dX12_reorders_83 rfl ?_
      refine aw_iload_n (pc := 86) (i := 3) dX12_reorders_86 rfl rfl ?_
      refine aw_iload (pc := 87) dX12_reorders_87 rfl ?_
      refine ms_order (pc := 89) dX12_reorders_89 (by omega) ?_
      refine aw_iload_n (pc := 90) (i := 2) dX12_reorders_90 rfl rfl ?_
      refine aw_iconst (pc := 91) dX12_reorders_91 iconst_1 ?_
      refine an_add (pc := 92) dX12_reorders_92 ?_
      refine aw_istore (pc := 93) (i := 5) dX12_reorders_93 (Nat.le_of_ble_eq_true rfl) rfl ?_
      refine aw_iload_n (pc := 95) (i := 1) dX12_reorders_95 rfl rfl ?_
      refine aw_iconst (pc := 96) dX12_reorders_96 iconst_1 ?_
      refine an_sub (pc := 97) dX12_reorders_97 (by omega) ?_
      refine aw_istore (pc := 98) (i := 6) dX12_reorders_98 (Nat.le_of_ble_eq_true rfl) rfl ?_
      refine aw_ws (w9 := mW G.2.2.1 a (sN σ 39 (sw o i j))) rfl ?_
      refine ro_rv hn hB kk n (sw o i j) (o i) (i + 1) (n - 1) (by omega) (Or.inr trivial) (by omega) (sw_lt (by omega) hjn ho) ?_ (by omega) (by omega)
      show _ = rv n (sw o i (jF o (o i) (n - 1))) (i + 1) (n - 1)
      rw [hjj]
    · -- 56
      subst hj
      exfalso; rw [Nat.add_zero] at h53; omega
  | succ m ih =>
    intro j hj hjn he
    refine aw_aload_n (pc := 41) (i := 0) dX12_reorders_41 rfl rfl ?_
    refine mg_order (pc := 42) dX12_reorders_42 rfl ?_
    refine aw_iload_n (pc := 45) (i := 3) dX12_reorders_45 rfl rfl ?_
    refine ml_order (pc := 46) dX12_reorders_46 (by omega) ?_
    refine aw_top (y := (nI (o j))) rfl ?_
    refine aw_aload_n (pc := 47) (i := 0) dX12_reorders_47 rfl rfl ?_
    refine mg_order (pc := 48) dX12_reorders_48 rfl ?_
    refine aw_iload_n (pc := 51) (i := 2) dX12_reorders_51 rfl rfl ?_
    refine ml_order (pc := 52) dX12_reorders_52 (by omega) ?_
    refine aw_top (y := (nI (o i))) rfl ?_
    refine an_icmp_ge (pc := 53) (tgt := 62) dX12_reorders_53 rfl (Nat.lt_of_lt_of_le (ho _ (by omega)) hB) (Nat.lt_of_lt_of_le (ho _ (by omega)) hB) (fun h53 => ?_) (fun h53 => ?_)
    · -- 62
      have hjj : jF o (o i) (n - 1) = j := by rw [← he, show j = (j - 1) + 1 by omega, jF, if_neg (by rw [show j - 1 + 1 = j by omega]; omega)]
      refine aw_aload_n (pc := 62) (i := 0) dX12_reorders_62 rfl rfl ?_
      refine mg_order (pc := 63) dX12_reorders_63 rfl ?_
      refine aw_iload_n (pc := 66) (i := 2) dX12_reorders_66 rfl rfl ?_
      refine ml_order (pc := 67) dX12_reorders_67 (by omega) ?_
      refine aw_top (y := (nI (o i))) rfl ?_
      refine aw_istore (pc := 68) (i := 4) dX12_reorders_68 (Nat.le_of_ble_eq_true rfl) rfl ?_
      refine aw_aload_n (pc := 70) (i := 0) dX12_reorders_70 rfl rfl ?_
      refine mg_order (pc := 71) dX12_reorders_71 rfl ?_
      refine aw_iload_n (pc := 74) (i := 2) dX12_reorders_74 rfl rfl ?_
      refine aw_aload_n (pc := 75) (i := 0) dX12_reorders_75 rfl rfl ?_
      refine mg_order (pc := 76) dX12_reorders_76 rfl ?_
      refine aw_iload_n (pc := 79) (i := 3) dX12_reorders_79 rfl rfl ?_
      refine ml_order (pc := 80) dX12_reorders_80 (by omega) ?_
      refine aw_top (y := (nI (o j))) rfl ?_
      refine ms_order (pc := 81) dX12_reorders_81 (by omega) ?_
      refine aw_aload_n (pc := 82) (i := 0) dX12_reorders_82 rfl rfl ?_
      refine mg_order (pc := 83) dX12_reorders_83 rfl ?_
      refine aw_iload_n (pc := 86) (i := 3) dX12_reorders_86 rfl rfl ?_
      refine aw_iload (pc := 87) dX12_reorders_87 rfl ?_
      refine ms_order (pc := 89) dX12_reorders_89 (by omega) ?_
      refine aw_iload_n (pc := 90) (i := 2) dX12_reorders_90 rfl rfl ?_
      refine aw_iconst (pc := 91) dX12_reorders_91 iconst_1 ?_
      refine an_add (pc := 92) dX12_reorders_92 ?_
      refine aw_istore (pc := 93) (i := 5) dX12_reorders_93 (Nat.le_of_ble_eq_true rfl) rfl ?_
      refine aw_iload_n (pc := 95) (i := 1) dX12_reorders_95 rfl rfl ?_
      refine aw_iconst (pc := 96) dX12_reorders_96 iconst_1 ?_
      refine an_sub (pc := 97) dX12_reorders_97 (by omega) ?_
      refine aw_istore (pc := 98) (i := 6) dX12_reorders_98 (Nat.le_of_ble_eq_true rfl) rfl ?_
      refine aw_ws (w9 := mW G.2.2.1 a (sN σ 39 (sw o i j))) rfl ?_
      refine ro_rv hn hB kk n (sw o i j) (o i) (i + 1) (n - 1) (by omega) (Or.inr trivial) (by omega) (sw_lt (by omega) hjn ho) ?_ (by omega) (by omega)
      show _ = rv n (sw o i (jF o (o i) (n - 1))) (i + 1) (n - 1)
      rw [hjj]
    · -- 56
      refine an_dec (pc := 56) (v := (-1 : Int32)) (y := nI (j - 1)) dX12_reorders_56 rfl (by decide) (nI_dec (by omega)) (Nat.le_of_ble_eq_true rfl) rfl ?_
      refine aw_goto (pc := 59) (tgt := 41) dX12_reorders_59 rfl ?_
      refine ih (j - 1) (by omega) (by omega) ?_
      rw [← he, show j = (j - 1) + 1 by omega, jF, if_pos (by rw [show j - 1 + 1 = j by omega]; omega)]
      rw [show j - 1 + 1 - 1 = j - 1 by omega]
set_option maxHeartbeats 1000000 in
set_option maxRecDepth 20000 in
theorem ro_i {G : xG} {d : Nat} {Q : xQ} {a : Nat → Nat} {σ : mS} {n : Nat} {B : Nat} {o : Nat → Nat} (hn : n ≤ 6) (hB : B ≤ 2 ^ 31) (ho : ∀ k, k < n → o k < B) (k0 : piv o (n - 1) = none → Q (some (.int (bI false))) (mW G.2.2.1 a (sN σ 39 o))) (k1 : ∀ i, piv o (n - 1) = some i → Q (some (.int (bI true))) (mW G.2.2.1 a (sN σ 39 (ro o n i)))) : ∀ e, e + 1 ≤ n → piv o e = piv o (n - 1) → AW G MX12_reorders d 0 0 Q 4 [some (.ref (a 60)), some (.int (nI n)), some (.int (dpI e)), none, none, none, none] [] (mW G.2.2.1 a (sN σ 39 o)) 0 0 := by
  intro e
  induction e with
  | zero =>
    intro he hp
    refine aw_L (L9 := [some (.ref (a 60)), some (.int (nI n)), some (.int ((-1))), none, none, none, none]) rfl ?_
    refine aw_iload_n (pc := 4) (i := 2) dX12_reorders_4 rfl rfl ?_
    refine an_ifm_lt (pc := 5) (tgt := 31) dX12_reorders_5 rfl ?_
    refine aw_iload_n (pc := 31) (i := 2) dX12_reorders_31 rfl rfl ?_
    refine an_ifm_ge (pc := 32) (tgt := 37) dX12_reorders_32 rfl ?_
    refine aw_iconst (pc := 35) dX12_reorders_35 iconst_0 ?_
    exact ab_ret0 (pc := 36) dX12_reorders_36 rfl (Nat.le_refl _) (Nat.le_refl _) (k0 hp.symm)
  | succ e ih =>
    intro he hp
    refine aw_L (L9 := [some (.ref (a 60)), some (.int (nI n)), some (.int (nI e)), none, none, none, none]) (by rw [dpI_s]) ?_
    refine aw_iload_n (pc := 4) (i := 2) dX12_reorders_4 rfl rfl ?_
    refine an_if_lt (pc := 5) (tgt := 31) dX12_reorders_5 rfl (by omega) ?_
    refine aw_aload_n (pc := 8) (i := 0) dX12_reorders_8 rfl rfl ?_
    refine mg_order (pc := 9) dX12_reorders_9 rfl ?_
    refine aw_iload_n (pc := 12) (i := 2) dX12_reorders_12 rfl rfl ?_
    refine ml_order (pc := 13) dX12_reorders_13 (by omega) ?_
    refine aw_top (y := (nI (o e))) rfl ?_
    refine aw_aload_n (pc := 14) (i := 0) dX12_reorders_14 rfl rfl ?_
    refine mg_order (pc := 15) dX12_reorders_15 rfl ?_
    refine aw_iload_n (pc := 18) (i := 2) dX12_reorders_18 rfl rfl ?_
    refine aw_iconst (pc := 19) dX12_reorders_19 iconst_1 ?_
    refine an_add (pc := 20) dX12_reorders_20 ?_
    refine ml_order (pc := 21) dX12_reorders_21 (by omega) ?_
    refine aw_top (y := (nI (o (e + 1)))) rfl ?_
    refine an_icmp_le (pc := 22) (tgt := 31) dX12_reorders_22 rfl (Nat.lt_of_lt_of_le (ho _ (by omega)) hB) (Nat.lt_of_lt_of_le (ho _ (by omega)) hB) (fun h22 => ?_) (fun h22 => ?_)
    · -- 31
      have hpi : piv o (n - 1) = some e := by rw [← hp, piv, if_neg (Nat.not_lt.mpr h22)]
      refine aw_iload_n (pc := 31) (i := 2) dX12_reorders_31 rfl rfl ?_
      refine an_if_ge (pc := 32) (tgt := 37) dX12_reorders_32 rfl (by omega) ?_
      refine aw_iload_n (pc := 37) (i := 1) dX12_reorders_37 rfl rfl ?_
      refine aw_iconst (pc := 38) dX12_reorders_38 iconst_1 ?_
      refine an_sub (pc := 39) dX12_reorders_39 (by omega) ?_
      refine aw_istore_n (pc := 40) (i := 3) dX12_reorders_40 rfl (Nat.le_of_ble_eq_true rfl) rfl ?_
      exact ro_j hn hB ho (by omega) h22 (k1 e hpi) (n - 1 - (e + 1)) (n - 1) (by omega) (by omega) rfl
    · -- 25
      refine aw_iinc (pc := 25) (v := -1) dX12_reorders_25 rfl (by rfl) (Nat.le_of_ble_eq_true rfl) rfl ?_
      refine aw_goto (pc := 28) (tgt := 4) dX12_reorders_28 rfl ?_
      refine aw_L (L9 := [some (.ref (a 60)), some (.int (nI n)), some (.int (dpI e)), none, none, none, none]) rfl ?_
      refine ih (by omega) ?_
      rw [← hp, piv, if_pos h22]
set_option maxHeartbeats 1000000 in
set_option maxRecDepth 20000 in
theorem s_reorders {G : xG} {d : Nat} {Q : xQ} {a : Nat → Nat} {σ : mS} {n : Nat} {B : Nat} {o : Nat → Nat} (hn : n ≤ 6) (hB : B ≤ 2 ^ 31) (ho : ∀ k, k < n → o k < B) (k0 : piv o (n - 1) = none → Q (some (.int (bI false))) (mW G.2.2.1 a (sN σ 39 o))) (k1 : ∀ i, piv o (n - 1) = some i → Q (some (.int (bI true))) (mW G.2.2.1 a (sN σ 39 (ro o n i)))) : MT G MX12_reorders d 0 0 [.ref (a 60), .int (nI n)] (mW G.2.2.1 a (sN σ 39 o)) Q := by
  refine mt_start (L := [some (.ref (a 60)), some (.int (nI n)), none, none, none, none, none]) rfl (Nat.le_of_ble_eq_true rfl) rfl ?_
  cases n with
  | zero =>
    refine aw_iload_n (pc := 0) (i := 1) dX12_reorders_0 rfl rfl ?_
    refine aw_iconst (pc := 1) dX12_reorders_1 iconst_2 ?_
    refine aw_isub (pc := 2) dX12_reorders_2 ?_
    refine aw_top (y := ((-2))) (by decide) ?_
    refine aw_istore_n (pc := 3) (i := 2) dX12_reorders_3 rfl (Nat.le_of_ble_eq_true rfl) rfl ?_
    refine aw_iload_n (pc := 4) (i := 2) dX12_reorders_4 rfl rfl ?_
    refine aw_if_lt (pc := 5) (tgt := 31) dX12_reorders_5 rfl (fun _ => ?_) (fun h => absurd (by decide) h)
    refine aw_iload_n (pc := 31) (i := 2) dX12_reorders_31 rfl rfl ?_
    refine aw_if_ge (pc := 32) (tgt := 37) dX12_reorders_32 rfl (fun h => absurd h (by decide)) (fun _ => ?_)
    refine aw_iconst (pc := 35) dX12_reorders_35 iconst_0 ?_
    exact ab_ret0 (pc := 36) dX12_reorders_36 rfl (Nat.le_refl _) (Nat.le_refl _) (k0 rfl)
  | succ n =>
    refine aw_iload_n (pc := 0) (i := 1) dX12_reorders_0 rfl rfl ?_
    refine aw_iconst (pc := 1) dX12_reorders_1 iconst_2 ?_
    refine aw_isub (pc := 2) dX12_reorders_2 ?_
    refine aw_top (y := (dpI n)) (by rw [← dpI_sub, ← nI_add, Int32.sub_eq_add_neg, Int32.sub_eq_add_neg, Int32.add_assoc]; rfl) ?_
    refine aw_istore_n (pc := 3) (i := 2) dX12_reorders_3 rfl (Nat.le_of_ble_eq_true rfl) rfl ?_
    exact ro_i hn hB ho k0 k1 n (Nat.le_refl _) rfl
