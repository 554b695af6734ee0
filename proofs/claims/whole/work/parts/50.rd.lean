/-! THE CLASS. Reading: RD, a cell that may be read: it lies in the world, or nobody writes it. -/
def RD (G : xG) (ws : va_W) (e : Nat × va_E) : Prop := (∃ k : Nat, ws[k]? = some e) ∨ ∀ (A : Nat → Prop) (U : State), G.2.2.2 A U → va_at G.2.1 vwCl e U.heap ∧ ¬ A e.1
theorem rdi {G : xG} {ws : va_W} {e : Nat × va_E} (k : Nat) (h : ws[k]? = some e) : RD G ws e := Or.inl ⟨k, h⟩
theorem rd_mem {G : xG} {ws : va_W} {e : Nat × va_E} (h : e ∈ ws) : RD G ws e := Or.inl (List.getElem?_of_mem h)
theorem rd_sub {G : xG} {R R' : va_W} {e : Nat × va_E} (hs : ∀ x ∈ R, x ∈ R') (h : RD G R e) : RD G R' e := by
  rcases h with ⟨k, hk⟩ | h
  · exact rd_mem (hs _ (List.mem_of_getElem? hk))
  · exact Or.inr h
theorem rd_app {G : xG} {X R : va_W} {e : Nat × va_E} (h : RD G R e) : RD G (X ++ R) e := rd_sub (fun _ h => List.mem_append_right _ h) h
theorem rd_at {G : xG} {μ : xM} {p : Program} {s : State} {m : MethodId} {args : Array Value} {meth : Method} {c : Code} {A : Nat → Prop} {H : Heap} {locs : List Loc} {ws : va_W} {e : Nat × va_E} (C : xC G μ p s m args meth c A) (hS : va_S A s.heap H locs) (hP : va_P G.2.1 vwCl ws H) (h : RD G ws e) : va_P G.2.1 vwCl [e] H := by
  have h1 : va_at G.2.1 vwCl e H := by
    rcases h with ⟨k, hk⟩ | h
    · exact hP k e hk
    · obtain ⟨h1, h2⟩ := h A s C.2.2.2.2.2.2.2.2.2.2.2
      exact h1.kept (hS.2.1 e.1 h1.lt h2)
  intro k q hk
  cases k with
  | zero => cases hk; exact h1
  | succ k => cases hk
/-- an object that may be read: its fields' values -/
def OV (G : xG) (ws : va_W) (ci a : Nat) (v : Nat → Value) : Prop := ∃ fs : List Value, RD G ws (a, .inr (ci, fs)) ∧ ∀ r : vw_C, vwCl[ci]? = some r → ∀ k, k < r.2.2 → fs[k]? = some (v k)
/-- arrays that may be read: class (by its number in xT), length, and what the first M places hold -/
def IV (G : xG) (ws : va_W) (j a N M : Nat) (f : Nat → Int32) : Prop := ∃ f' : Nat → Int32, RD G ws (a, .inl (G.2.2.1 j, N, .inl f')) ∧ M ≤ N ∧ ∀ i, i < M → f' i = f i
def JV (G : xG) (ws : va_W) (a N M : Nat) (f : Nat → Int64) : Prop := ∃ f' : Nat → Int64, RD G ws (a, .inl (G.2.2.1 2, N, .inr (.inl f'))) ∧ M ≤ N ∧ ∀ i, i < M → f' i = f i
def QV (G : xG) (ws : va_W) (j a N M : Nat) (f : Nat → Option Nat) : Prop := ∃ f' : Nat → Option Nat, RD G ws (a, .inl (G.2.2.1 j, N, .inr (.inr (.inr (.inr f'))))) ∧ M ≤ N ∧ ∀ i, i < M → f' i = f i
section VSUB
variable {G : xG} {R R' X : va_W} {ci a j N M : Nat}
theorem OV.sub {v : Nat → Value} (hs : ∀ x ∈ R, x ∈ R') (h : OV G R ci a v) : OV G R' ci a v := by obtain ⟨fs, h1, h2⟩ := h; exact ⟨fs, rd_sub hs h1, h2⟩
theorem IV.sub {f : Nat → Int32} (hs : ∀ x ∈ R, x ∈ R') (h : IV G R j a N M f) : IV G R' j a N M f := by obtain ⟨fs, h1, h2⟩ := h; exact ⟨fs, rd_sub hs h1, h2⟩
theorem JV.sub {f : Nat → Int64} (hs : ∀ x ∈ R, x ∈ R') (h : JV G R a N M f) : JV G R' a N M f := by obtain ⟨fs, h1, h2⟩ := h; exact ⟨fs, rd_sub hs h1, h2⟩
theorem QV.sub {f : Nat → Option Nat} (hs : ∀ x ∈ R, x ∈ R') (h : QV G R j a N M f) : QV G R' j a N M f := by obtain ⟨fs, h1, h2⟩ := h; exact ⟨fs, rd_sub hs h1, h2⟩
theorem OV.rd {fs : List Value} (h : RD G R (a, .inr (ci, fs))) (hl : ∀ r : vw_C, vwCl[ci]? = some r → r.2.2 ≤ fs.length) : OV G R ci a (fun k => fs.getD k .null) := ⟨fs, h, fun r hr k hk => by
  have := hl r hr
  show fs[k]? = some (fs.getD k .null)
  rw [List.getD_eq_getElem?_getD, List.getElem?_eq_getElem (by omega)]; rfl⟩
theorem OV.of {fs : List Value} {v : Nat → Value} (k : Nat) (h : R[k]? = some (a, .inr (ci, fs))) (hl : ∀ r : vw_C, vwCl[ci]? = some r → ∀ k, k < r.2.2 → fs[k]? = some (v k)) : OV G R ci a v := ⟨fs, rdi k h, hl⟩
theorem IV.of {f' f : Nat → Int32} (k : Nat) (h : R[k]? = some (a, .inl (G.2.2.1 j, N, .inl f'))) (hM : M ≤ N) (hf : ∀ i, i < M → f' i = f i) : IV G R j a N M f := ⟨f', rdi k h, hM, hf⟩
theorem JV.of {f' f : Nat → Int64} (k : Nat) (h : R[k]? = some (a, .inl (G.2.2.1 2, N, .inr (.inl f')))) (hM : M ≤ N) (hf : ∀ i, i < M → f' i = f i) : JV G R a N M f := ⟨f', rdi k h, hM, hf⟩
theorem QV.of {f' f : Nat → Option Nat} (k : Nat) (h : R[k]? = some (a, .inl (G.2.2.1 j, N, .inr (.inr (.inr (.inr f')))))) (hM : M ≤ N) (hf : ∀ i, i < M → f' i = f i) : QV G R j a N M f := ⟨f', rdi k h, hM, hf⟩
theorem IV.mono {M' : Nat} {f f2 : Nat → Int32} (h : IV G R j a N M f) (hM : M' ≤ M) (hf : ∀ i, i < M' → f i = f2 i) : IV G R j a N M' f2 := by
  obtain ⟨f', h1, h2, h3⟩ := h
  exact ⟨f', h1, by omega, fun i hi => (h3 i (by omega)).trans (hf i hi)⟩
theorem JV.mono {M' : Nat} {f f2 : Nat → Int64} (h : JV G R a N M f) (hM : M' ≤ M) (hf : ∀ i, i < M' → f i = f2 i) : JV G R a N M' f2 := by
  obtain ⟨f', h1, h2, h3⟩ := h
  exact ⟨f', h1, by omega, fun i hi => (h3 i (by omega)).trans (hf i hi)⟩
end VSUB
/-- what a field's reading from the class own needs of the table -/
def xGok (own : String) (idx : Nat) (CN : String) (T : u_T) (N f : Nat) : Prop := (∀ w ∈ u_ws CN T N, w ∈ gtbl) ∧ Cond.fieldLink own idx (T f).1 (T f).2.1 (T f).2.2.1 ∈ gtbl ∧ f < N
section AVR
variable {G : xG} {μ : xM} {d mc ms : Nat} {Q : xQ} {pc : Nat} {L : List (Option Value)} {st : List Value} {ws : va_W} {n k : Nat}
theorem av_get {ci N idx f : Nat} {CN : String} {T : u_T} {v : Nat → Value} {x : Value} {a : Nat} {own : String} (hd : decode μ.2.1 pc = .ok (.getfield idx, 3)) (ho : μ.1.cls = own) (ok : xGok own idx CN T N f) (hc : vwCl[ci]? = some (CN, T, N)) (h : OV G ws ci a v) (hv : v f = x) (kk : AW G μ d mc ms Q (pc + 3) L (x :: st) ws n k) : AW G μ d mc ms Q pc L (.ref a :: st) ws n k := by
  intro p e s m args below meth c H locs A ls C hS hP hD hl
  subst ho
  subst hv
  obtain ⟨fs, h1, h2⟩ := h
  exact va_get C.1 C.2.1 C.2.2.2.2.2.1 ok.1 C.2.2.2.2.1 C.2.2.2.2.2.2.2.2.2.1 (rd_at C hS hP h1) 0 rfl hc f ok.2.2 (C.2.2.2.2.2.1 _ ok.2.1) (fun _ h9 => h9) (h2 _ hc f ok.2.2) hd (kk p e s m args below meth c H locs A ls C hS hP hD hl)
theorem av_iald {N M a i : Nat} {f : Nat → Int32} {x : Int32} (hd : decode μ.2.1 pc = .ok (.iaload, 1)) (h : IV G ws 1 a N M f) (hi : i < M) (hN : N < 2 ^ 31) (hx : f i = x) (kk : AW G μ d mc ms Q (pc + 1) L (.int x :: st) ws n k) : AW G μ d mc ms Q pc L (.int (nI i) :: .ref a :: st) ws n k := by
  intro p e s m args below meth c H locs A ls C hS hP hD hl
  obtain ⟨f', h1, h2, h3⟩ := h
  subst hx
  have := kk p e s m args below meth c H locs A ls C hS hP hD hl
  rw [← h3 i hi] at this
  exact va_iald C.1 C.2.1 C.2.2.2.2.2.2.2.2.2.1 (rd_at C hS hP h1) 0 1 rfl rfl (vp_in_nI (by omega) hN) hd (by rw [nI_clamp (by omega)]; exact this)
theorem av_bald {N M a i : Nat} {f : Nat → Int32} {x : Int32} (hd : decode μ.2.1 pc = .ok (.baload, 1)) (h : IV G ws 0 a N M f) (hi : i < M) (hN : N < 2 ^ 31) (hx : f i = x) (kk : AW G μ d mc ms Q (pc + 1) L (.int x :: st) ws n k) : AW G μ d mc ms Q pc L (.int (nI i) :: .ref a :: st) ws n k := by
  intro p e s m args below meth c H locs A ls C hS hP hD hl
  obtain ⟨f', h1, h2, h3⟩ := h
  subst hx
  have := kk p e s m args below meth c H locs A ls C hS hP hD hl
  rw [← h3 i hi] at this
  exact va_bald C.1 C.2.1 C.2.2.2.2.2.2.2.2.2.1 (rd_at C hS hP h1) 0 0 rfl rfl (vp_in_nI (by omega) hN) hd (by rw [nI_clamp (by omega)]; exact this)
theorem av_lald {N M a i : Nat} {f : Nat → Int64} {x : Int64} (hd : decode μ.2.1 pc = .ok (.laload, 1)) (h : JV G ws a N M f) (hi : i < M) (hN : N < 2 ^ 31) (hx : f i = x) (kk : AW G μ d mc ms Q (pc + 1) L (.long x :: st) ws n k) : AW G μ d mc ms Q pc L (.int (nI i) :: .ref a :: st) ws n k := by
  intro p e s m args below meth c H locs A ls C hS hP hD hl
  obtain ⟨f', h1, h2, h3⟩ := h
  subst hx
  have := kk p e s m args below meth c H locs A ls C hS hP hD hl
  rw [← h3 i hi] at this
  exact va_lald C.1 C.2.1 C.2.2.2.2.2.2.2.2.2.1 (rd_at C hS hP h1) 0 2 rfl rfl (vp_in_nI (by omega) hN) hd (by rw [nI_clamp (by omega)]; exact this)
/-- arrays of states -/
theorem av_saald {N M a i : Nat} {f : Nat → Option Nat} {x : Option Nat} (hd : decode μ.2.1 pc = .ok (.aaload, 1)) (h : QV G ws 4 a N M f) (hi : i < M) (hN : N < 2 ^ 31) (hx : f i = x) (kk : AW G μ d mc ms Q (pc + 1) L (va_rf x :: st) ws n k) : AW G μ d mc ms Q pc L (.int (nI i) :: .ref a :: st) ws n k := by
  intro p e s m args below meth c H locs A ls C hS hP hD hl
  obtain ⟨f', h1, h2, h3⟩ := h
  subst hx
  have := kk p e s m args below meth c H locs A ls C hS hP hD hl
  rw [← h3 i hi] at this
  exact va_aldq C.1 C.2.1 C.2.2.2.2.2.2.2.2.2.1 (rd_at C hS hP h1) 0 4 rfl rfl (vp_in_nI (by omega) hN) hd (by rw [nI_clamp (by omega)]; exact this)
/-- arrays of words -/
theorem av_waald {N M a i : Nat} {f : Nat → Option Nat} {x : Option Nat} (hd : decode μ.2.1 pc = .ok (.aaload, 1)) (h : QV G ws 5 a N M f) (hi : i < M) (hN : N < 2 ^ 31) (hx : f i = x) (kk : AW G μ d mc ms Q (pc + 1) L (va_rf x :: st) ws n k) : AW G μ d mc ms Q pc L (.int (nI i) :: .ref a :: st) ws n k := by
  intro p e s m args below meth c H locs A ls C hS hP hD hl
  obtain ⟨f', h1, h2, h3⟩ := h
  subst hx
  have := kk p e s m args below meth c H locs A ls C hS hP hD hl
  rw [← h3 i hi] at this
  exact va_aldq C.1 C.2.1 C.2.2.2.2.2.2.2.2.2.1 (rd_at C hS hP h1) 0 5 rfl rfl (vp_in_nI (by omega) hN) hd (by rw [nI_clamp (by omega)]; exact this)
theorem av_ilen {N M a : Nat} {f : Nat → Int32} (hd : decode μ.2.1 pc = .ok (.arraylength, 1)) (h : IV G ws 1 a N M f) (kk : AW G μ d mc ms Q (pc + 1) L (.int (nI N) :: st) ws n k) : AW G μ d mc ms Q pc L (.ref a :: st) ws n k := by
  intro p e s m args below meth c H locs A ls C hS hP hD hl
  obtain ⟨f', h1, h2, h3⟩ := h
  exact va_alen C.1 C.2.1 C.2.2.2.2.2.2.2.2.2.1 (rd_at C hS hP h1) 0 1 rfl rfl rfl hd (kk p e s m args below meth c H locs A ls C hS hP hD hl)
-- null and not null
theorem aw_ifnonnull {r : Option Nat} {off : Int} {tgt : Nat} (hd : decode μ.2.1 pc = .ok (.ifnonnull off, 3)) (ht : (pc : Int) + off = (tgt : Int)) (kt : ∀ x, r = some x → AW G μ d mc ms Q tgt L st ws n k) (kf : r = none → AW G μ d mc ms Q (pc + 3) L st ws n k) : AW G μ d mc ms Q pc L (va_rf r :: st) ws n k := by
  intro p e s m args below meth c H locs A ls C hS hP hD hl
  cases r with
  | none => exact lv_ifnonnullN C.1 C.2.1 hd (kf rfl p e s m args below meth c H locs A ls C hS hP hD hl)
  | some x => exact lv_ifnonnull C.1 C.2.1 hd ht (kt x rfl p e s m args below meth c H locs A ls C hS hP hD hl)
theorem aw_ifnull {r : Option Nat} {off : Int} {tgt : Nat} (hd : decode μ.2.1 pc = .ok (.ifnull off, 3)) (ht : (pc : Int) + off = (tgt : Int)) (kt : r = none → AW G μ d mc ms Q tgt L st ws n k) (kf : ∀ x, r = some x → AW G μ d mc ms Q (pc + 3) L st ws n k) : AW G μ d mc ms Q pc L (va_rf r :: st) ws n k := by
  intro p e s m args below meth c H locs A ls C hS hP hD hl
  cases r with
  | none => exact lv_ifnullN C.1 C.2.1 hd ht (kt rfl p e s m args below meth c H locs A ls C hS hP hD hl)
  | some x => exact lv_ifnull C.1 C.2.1 hd (kf x rfl p e s m args below meth c H locs A ls C hS hP hD hl)
theorem aw_acmp_eq {x y : Option Nat} {off : Int} {tgt : Nat} (hd : decode μ.2.1 pc = .ok (.if_acmp .eq off, 3)) (ht : (pc : Int) + off = (tgt : Int)) (kt : x = y → AW G μ d mc ms Q tgt L st ws n k) (kf : ¬ x = y → AW G μ d mc ms Q (pc + 3) L st ws n k) : AW G μ d mc ms Q pc L (va_rf y :: va_rf x :: st) ws n k := by
  intro p e s m args below meth c H locs A ls C hS hP hD hl
  exact lv_acmp_eq C.1 C.2.1 hd ht (fun h9 => kt h9 p e s m args below meth c H locs A ls C hS hP hD hl) (fun h9 => kf h9 p e s m args below meth c H locs A ls C hS hP hD hl)
theorem aw_acmp_ne {x y : Option Nat} {off : Int} {tgt : Nat} (hd : decode μ.2.1 pc = .ok (.if_acmp .ne off, 3)) (ht : (pc : Int) + off = (tgt : Int)) (kt : ¬ x = y → AW G μ d mc ms Q tgt L st ws n k) (kf : x = y → AW G μ d mc ms Q (pc + 3) L st ws n k) : AW G μ d mc ms Q pc L (va_rf y :: va_rf x :: st) ws n k := by
  intro p e s m args below meth c H locs A ls C hS hP hD hl
  exact lv_acmp_ne C.1 C.2.1 hd ht (fun h9 => kt h9 p e s m args below meth c H locs A ls C hS hP hD hl) (fun h9 => kf h9 p e s m args below meth c H locs A ls C hS hP hD hl)
theorem aw_topV {x y : Value} (h : x = y) (kk : AW G μ d mc ms Q pc L (y :: st) ws n k) : AW G μ d mc ms Q pc L (x :: st) ws n k := by
  subst h; exact kk
theorem aw_perm {w9 : va_W} (h : List.Perm ws w9) (kk : AW G μ d mc ms Q pc L st w9 n k) : AW G μ d mc ms Q pc L st ws n k := by
  intro p e s m args below meth c H locs A ls C hS hP hD hl
  refine kk p e s m args below meth c H locs A ls C hS (fun i q hi => ?_) ?_ hl
  · obtain ⟨j, hj⟩ := List.getElem?_of_mem (h.mem_iff.mpr (List.mem_of_getElem? hi))
    exact hP j q hj
  · have hnd : (ws.map Prod.fst).Nodup := by
      rw [List.Nodup, List.pairwise_iff_getElem]
      intro i j hi hj hij e
      rw [List.length_map] at hi hj
      rw [List.getElem_map, List.getElem_map] at e
      exact absurd (hD.1 i j _ _ (List.getElem?_eq_getElem hi) (List.getElem?_eq_getElem hj) e) (by omega)
    have hnd2 : (w9.map Prod.fst).Nodup := (h.map Prod.fst).nodup_iff.mp hnd
    refine ⟨fun i j p q hi hj e => ?_, fun i q hi => ?_⟩
    · obtain ⟨hi', hi2⟩ := List.getElem?_eq_some_iff.mp hi
      obtain ⟨hj', hj2⟩ := List.getElem?_eq_some_iff.mp hj
      rw [List.Nodup, List.pairwise_iff_getElem] at hnd2
      rcases Nat.lt_trichotomy i j with h1 | h1 | h1
      · exact absurd (by rw [List.getElem_map, List.getElem_map, hi2, hj2]; exact e) (hnd2 i j (by rw [List.length_map]; exact hi') (by rw [List.length_map]; exact hj') h1)
      · exact h1
      · exact absurd (by rw [List.getElem_map, List.getElem_map, hi2, hj2]; exact e.symm) (hnd2 j i (by rw [List.length_map]; exact hj') (by rw [List.length_map]; exact hi') h1)
    · obtain ⟨j, hj⟩ := List.getElem?_of_mem (h.mem_iff.mpr (List.mem_of_getElem? hi))
      exact hD.2 j q hj
/-- two worlds side by side change places -/
theorem aw_swap {X Y R : va_W} (kk : AW G μ d mc ms Q pc L st (Y ++ (X ++ R)) n k) : AW G μ d mc ms Q pc L st (X ++ (Y ++ R)) n k := aw_perm (by
  rw [← List.append_assoc, ← List.append_assoc]
  exact List.Perm.append_right R List.perm_append_comm) kk
theorem aw_swap3 {X Y Z R : va_W} (kk : AW G μ d mc ms Q pc L st (Z ++ (X ++ (Y ++ R))) n k) : AW G μ d mc ms Q pc L st (X ++ (Y ++ (Z ++ R))) n k := by
  refine aw_perm ?_ kk
  rw [← List.append_assoc X Y, ← List.append_assoc X Y, ← List.append_assoc, ← List.append_assoc Z]
  exact List.Perm.append_right R List.perm_append_comm
theorem aw_aret {r : Option Nat} {ty : FieldType} (hd : decode μ.2.1 pc = .ok (.areturn, 1)) (hr : μ.2.2.2 = some ty) (hty : (∃ nm, ty = .object nm) ∨ ∃ t, ty = .array t) (h1 : n ≤ mc) (h2 : k ≤ ms) (hQ : Q (some (va_rf r)) ws) : AW G μ d mc ms Q pc L [va_rf r] ws n k := by
  intro p e s m args below meth c H locs A ls C hS hP hD hl
  refine W.widen h1 h2 ?_
  exact W.aret C.1 C.2.1 (C.2.2.1.trans hr) hty (va_rf_or r) (fun t ht hW => aw_post hQ hS C.2.2.2.2.2.2.2.2.2.1 hP hD ht hW) hS.2.2 hd C.2.2.2.2.2.2.1
end AVR
