/-! every call keeps what holds of the row, n calls since the beginning -/
def UbN (n : Nat) (σ : Int → Int) : Prop := ∀ k : Int, 0 ≤ k → k < 16 → σ (37 + k) ≤ 1000000 + 600000 * (n : Int)
def Ok (n : Nat) (σ : Int → Int) : Prop := In σ ∧ Ge σ ∧ UbN n σ
section OKS
variable {σ τ : Int → Int} {n : Nat}
theorem Ok.ub (h : Ok n σ) (hn : n ≤ 600) : Ub σ := fun k h0 h1 => by have := h.2.2 k h0 h1; omega
theorem Ok.up (h : Ok n σ) {m : Nat} (hm : n ≤ m) : Ok m σ := ⟨h.1, h.2.1, fun k h0 h1 => by have := h.2.2 k h0 h1; omega⟩
theorem Ge.eq (h : Ge σ) (e : ∀ j, (j = 0 ∨ j = 4 ∨ 309 ≤ j) → τ j = σ j) : Ge τ := by
  intro g h0 h1
  rw [e 4 (by omega)] at h1
  rw [e 0 (by omega), e _ (by omega)]
  exact h g h0 h1
theorem Ok.sc (h : Ok n σ) : Ok n (scA σ 16) := ⟨h.1.sc (by omega), h.2.1.eq (fun j hj => scA_n _ _ (by omega)), fun k h0 h1 => by rw [scA_n _ _ (by omega)]; exact h.2.2 k h0 h1⟩
/-- a row that differs not in the time, the gifts and the amounts -/
theorem Ok.eq (h : Ok n σ) (hI : In τ) (e : ∀ j, (j = 0 ∨ j = 4 ∨ 309 ≤ j ∨ (37 ≤ j ∧ j < 53)) → τ j = σ j) : Ok (n + 1) τ := ⟨hI, h.2.1.eq (fun j hj => e j (by omega)), fun k h0 h1 => by rw [e _ (by omega)]; have := h.2.2 k h0 h1; omega⟩
/-- .. and the amounts by no more than 600000 -/
theorem Ok.eq2 (h : Ok n σ) (hI : In τ) (e : ∀ j, (j = 0 ∨ j = 4 ∨ 309 ≤ j) → τ j = σ j) (u : ∀ k, 0 ≤ k → k < 16 → τ (37 + k) ≤ σ (37 + k) + 600000 ∨ τ (37 + k) ≤ 1000000) : Ok (n + 1) τ := ⟨hI, h.2.1.eq e, fun k h0 h1 => by have := h.2.2 k h0 h1; have := u k h0 h1; omega⟩
theorem coA_le (h : In σ) {p b m B : Int} (hb : b ≤ B) (hm : m ≤ B) (hB : 0 ≤ B) {k : Int} (h0 : 0 ≤ k) (h1 : k < 16) : coA σ p b m (37 + k) ≤ σ (37 + k) + B := by
  have ha := (h.acc h0 h1).2.2.1
  unfold coA
  by_cases hp : p = -1
  · rw [if_pos hp]; omega
  · rw [if_neg hp]
    simp only [zu]
    by_cases e1 : 37 + k = 37 + (2 * p + 1)
    · rw [if_pos e1, ← e1]; omega
    · rw [if_neg e1]
      by_cases e2 : 37 + k = 37 + (2 * p + 0)
      · rw [if_pos e2, ← e2]; omega
      · rw [if_neg e2]; omega
theorem coA_le2 {σ : Int → Int} (hσ : ∀ k, 0 ≤ k → k < 16 → 0 ≤ σ (37 + k)) {p b m : Int} (hb : b ≤ 0) (hm : m ≤ 0) {k : Int} (h0 : 0 ≤ k) (h1 : k < 16) : coA σ p b m (37 + k) ≤ σ (37 + k) := by
  have ha := hσ k h0 h1
  unfold coA
  by_cases hp : p = -1
  · rw [if_pos hp]; omega
  · rw [if_neg hp]
    simp only [zu]
    by_cases e1 : 37 + k = 37 + (2 * p + 1)
    · rw [if_pos e1, ← e1]; omega
    · rw [if_neg e1]
      by_cases e2 : 37 + k = 37 + (2 * p + 0)
      · rw [if_pos e2, ← e2]; omega
      · rw [if_neg e2]; omega
theorem paA_le (h : In σ) (hu : Ub σ) {f a t : Int} (ht : -1 ≤ t ∧ t ≤ 7) {k : Int} (h0 : 0 ≤ k) (h1 : k < 16) : paA σ f a t (37 + k) ≤ σ (37 + k) + 600000 := by
  have b1 := h.opb f 1
  have b0 := h.opb f 0
  unfold paA
  by_cases e : a = t
  · rw [if_pos e]; have := (h.acc h0 h1).2.2.1; omega
  · rw [if_neg e]
    have hI := h.coAI (p := t) (b := opS σ f 1) (n := opS σ f 0) ht (by omega) (by omega) hu
    have := coA_le h (p := t) (b := opS σ f 1) (m := opS σ f 0) (B := 599940) (by omega) (by omega) (by omega) h0 h1
    have := coA_le2 (σ := coA σ t (opS σ f 1) (opS σ f 0)) (fun k q0 q1 => (hI.acc q0 q1).2.2.1.1) (p := a) (b := -opS σ f 1) (m := -opS σ f 0) (by omega) (by omega) h0 h1
    omega
theorem ok_AddF (h : Ok n σ) {p x : Int} (hk : kxAddF σ p x = 0) : Ok (n + 1) (nxAddF σ p x) := by
  obtain ⟨h1, h2, -, h4⟩ := kxAddF_ok hk
  have hF := h.1.F
  exact (h.eq (h.1.adFI (by omega) h1 ((nkB_i x).mp h2)) (fun j hj => adF_n h.1 (by omega) (by omega))).sc
theorem ok_RemF (h : Ok n σ) {f : Int} (hk : kxRemF σ f = 0) : Ok (n + 1) (nxRemF σ f) := by
  obtain ⟨h1, h2, h3, h4⟩ := kxRemF_ok hk
  have hF := h.1.F
  have hM := h.1.M
  have hb := h.1.biSb f
  have hb2 := h.1.fiSb f
  refine (h.eq (h.1.rfAI (f := f) (by omega) (by omega) (by omega)) (fun j hj => ?_)).sc
  rw [rfA_o (by omega) (by omega), rf1_v hF (by omega)]
  (repeat' split) <;> first | rfl | omega
theorem ok_Tag (h : Ok n σ) (hn : n ≤ 600) {f t : Int} (hk : kxTag σ f t = 0) : Ok (n + 1) (nxTag σ f t) := by
  obtain ⟨h1, h2, -⟩ := kxTag_ok hk
  have hu := h.ub hn
  have hpj := h.1.pjr (f := f) (Or.inr h1)
  have hpw := h.1.pwb h1 h2
  have hI := h.1.paAI f hpj hpw hu
  have hF := h.1.F
  refine (h.eq2 (hI.tagS (by rw [paA_n hpj hpw (by omega)]; exact h1) h2) (fun j hj => ?_) (fun k k0 k1 => Or.inl ?_)).sc
  · simp only [zu]; rw [if_neg (by omega), paA_n hpj hpw (by omega)]
  · simp only [zu]; rw [if_neg (by omega)]; exact paA_le h.1 hu hpw k0 k1
end OKS
section OKS2
variable {σ τ : Int → Int} {n : Nat}
theorem ok_Move (h : Ok n σ) (hn : n ≤ 600) {f q : Int} (hk : kxMove σ f q = 0) : Ok (n + 1) (nxMove σ f q) := by
  obtain ⟨h1, h2, h3⟩ := kxMove_ok hk
  have hu := h.ub hn
  have hb := rmS_b σ f q
  obtain ⟨h4, h5⟩ := rmS_0 (σ := σ) (f := f) (q := q) (by omega)
  have hpj := h.1.pjr (f := f) (Or.inr h1)
  have hpw := h.1.pub h1 h2
  have hI := h.1.paAI f hpj hpw hu
  have hF := h.1.F
  refine (h.eq2 (hI.parS (by rw [paA_n hpj hpw (by omega)]; omega) (by rw [paA_n hpj hpw (by omega)]; exact h2) (by rw [blF_pa h.1 hpj hpw h2]; exact h5)) (fun j hj => ?_) (fun k k0 k1 => Or.inl ?_)).sc
  · simp only [zu]; rw [if_neg (by omega), paA_n hpj hpw (by omega)]
  · simp only [zu]; rw [if_neg (by omega)]; exact paA_le h.1 hu hpw k0 k1
theorem ok_Write (h : Ok n σ) (hn : n ≤ 600) {f b : Int} (hk : kxWrite σ f b = 0) : Ok (n + 1) (nxWrite σ f b) := by
  obtain ⟨h1, h2, h3, -⟩ := kxWrite_ok hk
  have hM := h.1.M
  have hpj := h.1.pjr (f := f) (Or.inr h1)
  have hI := h.1.afFI (f := f) (b := b) (by omega) h1 h2
  have hn2 : ∀ j, (j = 0 ∨ j = 4 ∨ 309 ≤ j ∨ (37 ≤ j ∧ j < 53)) → afF σ f b j = σ j := fun j hj => afF_n2 h.1 (by omega) (by omega)
  have hu : Ub (afF σ f b) := fun k k0 k1 => by rw [hn2 _ (by omega)]; exact h.ub hn k k0 k1
  refine (h.eq2 (hI.coAI (p := pjF σ f) (b := b) (n := 1) hpj (by omega) (by omega) hu) (fun j hj => ?_) (fun k k0 k1 => Or.inl ?_)).sc
  · rw [coA_n hpj (by omega)]; exact hn2 j (by omega)
  · have q := coA_le hI (p := pjF σ f) (b := b) (m := 1) (B := 9999) (by omega) (by omega) (by omega) k0 k1
    rw [hn2 (37 + k) (by omega)] at q
    omega
theorem ok_Resize (h : Ok n σ) (hn : n ≤ 600) {k b : Int} (hk : kxResize σ k b = 0) : Ok (n + 1) (nxResize σ k b) := by
  obtain ⟨h1, h2, -⟩ := kxResize_ok hk
  have hM := h.1.M
  have hf := h.1.fil h1.1 h1.2
  have hpj := h.1.pjr (f := σ (189 + k)) (Or.inr hf.1)
  have hI := h.1.coAI (p := pjF σ (σ (189 + k))) (b := b - σ (249 + k)) (n := 0) hpj (by omega) (by omega) (h.ub hn)
  refine (h.eq2 (hI.siz (k := k) (b := b) (by rw [coA_n hpj (by omega)]; exact h1) h2) (fun j hj => ?_) (fun i k0 k1 => Or.inl ?_)).sc
  · simp only [zu]; rw [if_neg (by omega), coA_n hpj (by omega)]
  · simp only [zu]; rw [if_neg (by omega)]
    have q := coA_le h.1 (p := pjF σ (σ (189 + k))) (b := b - σ (249 + k)) (m := 0) (B := 9999) (by omega) (by omega) (by omega) k0 k1
    omega
theorem ok_Delete (h : Ok n σ) {k : Int} (hk : kxFi σ k = 0) : Ok (n + 1) (nxDelete σ k) := by
  have h1 := kxFi_ok hk
  have hM := h.1.M
  have hf := h.1.fil h1.1 h1.2
  have hpj := h.1.pjr (f := σ (189 + k)) (Or.inr hf.1)
  have hI := h.1.coAl (p := pjF σ (σ (189 + k))) (b := -σ (249 + k)) (n := -1) hpj (by omega) (by omega)
  have e3 : coA σ (pjF σ (σ (189 + k))) (-σ (249 + k)) (-1) 3 = σ 3 := coA_n hpj (by omega)
  have hk2 : 0 ≤ k ∧ k < coA σ (pjF σ (σ (189 + k))) (-σ (249 + k)) (-1) 3 := by rw [e3]; exact h1
  refine (h.eq2 (hI.dfAI hk2) (fun j hj => ?_) (fun i k0 k1 => Or.inl ?_)).sc
  · rw [dfA_n hI hk2 (by omega), coA_n hpj (by omega)]
  · rw [dfA_n hI hk2 (by omega)]
    have q := coA_le2 (σ := σ) (fun k q0 q1 => (h.1.acc q0 q1).2.2.1.1) (p := pjF σ (σ (189 + k))) (b := -σ (249 + k)) (m := -1) (by omega) (by omega) k0 k1
    omega
theorem ok_MoveFi (h : Ok n σ) (hn : n ≤ 600) {k f : Int} (hk : kxMoveFi σ k f = 0) : Ok (n + 1) (nxMoveFi σ k f) := by
  obtain ⟨h1, h2, -⟩ := kxMoveFi_ok hk
  have hM := h.1.M
  have hf := h.1.fil h1.1 h1.2
  have hpj := h.1.pjr (f := σ (189 + k)) (Or.inr hf.1)
  have hpt := h.1.pjr (f := f) (Or.inr h2)
  have hu := h.ub hn
  have hI := h.1.coAI (p := pjF σ f) (b := σ (249 + k)) (n := 1) hpt (by omega) (by omega) hu
  have hn3 : ∀ j, (j < 37 ∨ 53 ≤ j) → cmA σ (pjF σ (σ (189 + k))) (pjF σ f) (σ (249 + k)) j = σ j := by
    intro j hj
    unfold cmA
    split
    · rfl
    · rw [coA_n hpj (by omega), coA_n hpt (by omega)]
  refine (h.eq2 (cmI h.1 (k := k) (f := f) hpj hpt hu hf.2 h1 h2) (fun j hj => ?_) (fun i k0 k1 => Or.inl ?_)).sc
  · simp only [zu]; rw [if_neg (by omega), hn3 j (by omega)]
  · simp only [zu]; rw [if_neg (by omega)]
    unfold cmA
    split
    · omega
    · have q := coA_le h.1 (p := pjF σ f) (b := σ (249 + k)) (m := 1) (B := 9999) (by omega) (by omega) (by omega) k0 k1
      have q2 := coA_le2 (σ := coA σ (pjF σ f) (σ (249 + k)) 1) (fun k q0 q1 => (hI.acc q0 q1).2.2.1.1) (p := pjF σ (σ (189 + k))) (b := -σ (249 + k)) (m := -1) (by omega) (by omega) k0 k1
      omega
theorem ok_SetL (h : Ok n σ) {p k s h0 : Int} (hk : kxSetL σ p k s h0 = 0) : Ok (n + 1) (nxSetL σ p k s h0) := by
  obtain ⟨h1, h2, h3, h4, -⟩ := kxSetL_ok hk
  refine (h.eq (h.1.lims (a := 2 * p + k) (by omega) h3 h4) (fun j hj => ?_)).sc
  simp only [zu]; rw [if_neg (by omega), if_neg (by omega)]
theorem ok_SetG (h : Ok n σ) {g : Int} (hk : kxSetG g = 0) : Ok (n + 1) (nxSetG σ g) := by
  refine (h.eq (h.1.grace (kxSetG_ok hk)) (fun j hj => ?_)).sc
  simp only [zu]; rw [if_neg (by omega)]
theorem reG_ge {t : Int} : ∀ (m : Nat) {σ : Int → Int}, (m : Int) ≤ σ 4 → (∀ g : Int, (m : Int) ≤ g → g < σ 4 → t < σ (309 + 4 * g + 3)) → ∀ g : Int, 0 ≤ g → g < reG σ t m 4 → t < reG σ t m (309 + 4 * g + 3)
  | 0, _, _, hg => fun g h0 h1 => hg g (by omega) h1
  | m + 1, σ, hm, hg => by
    show ∀ g : Int, 0 ≤ g → g < (if σ (309 + 4 * (m : Int) + 3) ≤ t then reG (dgF σ (m : Int)) t m else reG σ t m) 4 → t < (if σ (309 + 4 * (m : Int) + 3) ≤ t then reG (dgF σ (m : Int)) t m else reG σ t m) (309 + 4 * g + 3)
    have e4 : dgF σ (m : Int) 4 = σ 4 - 1 := by rw [dgF_v, if_pos rfl]
    split
    · refine reG_ge m (by rw [e4]; omega) (fun g g0 g1 => ?_)
      rw [e4] at g1
      rw [dgF_v, if_neg (by omega), if_pos (by omega), show 309 + 4 * g + 3 + 4 = 309 + 4 * (g + 1) + 3 by omega]
      exact hg (g + 1) (by omega) (by omega)
    · refine reG_ge m (by omega) (fun g g0 g1 => ?_)
      by_cases e : g = (m : Int)
      · rw [e]; omega
      · exact hg g (by omega) g1
theorem ok_Tick (h : Ok n σ) {t : Int} (hk : kxTick σ t = 0) : Ok (n + 1) (nxTick σ t) := by
  obtain ⟨h1, h2⟩ := kxTick_ok hk
  have hG := h.1.Gn
  have ht := h.1.ti
  have hI1 : In (zu σ 0 (σ 0 + t)) := h.1.time (by omega)
  have e4 : zu σ 0 (σ 0 + t) 4 = σ 4 := rfl
  have hI2 : In (tkA σ t) := hI1.reGI _ (by rw [e4]; omega)
  refine Ok.sc ⟨hI2, fun g g0 g1 => ?_, fun k k0 k1 => ?_⟩
  · have e0 : tkA σ t 0 = σ 0 + t := by unfold tkA; rw [reG_n _ (by omega)]; rfl
    rw [e0]
    exact reG_ge (t := σ 0 + t) (σ 4).toNat (σ := zu σ 0 (σ 0 + t)) (by rw [e4]; omega) (fun g q0 q1 => absurd q1 (by rw [e4]; omega)) g g0 g1
  · have e : tkA σ t (37 + k) = σ (37 + k) := by unfold tkA; rw [reG_n _ (by omega)]; simp only [zu]; rw [if_neg (by omega)]
    rw [e]
    have := h.2.2 k k0 k1
    omega
theorem ok_Gift (h : Ok n σ) {a t b d : Int} (hk : kxGift σ a t b d = 0) (h12 : σ 4 < 12) : Ok (n + 1) (nxGift σ a t b d) := by
  obtain ⟨h1, h2, h3, h4, h5, h6⟩ := kxGift_ok hk
  have hG := h.1.Gn
  have ht := h.1.ti
  refine Ok.sc ⟨h.1.gaAI h12 h1 h2 h4 (by omega), fun g g0 g1 => ?_, fun k k0 k1 => ?_⟩
  · have e4 : gaA σ a t b (σ 0 + d) 4 = σ 4 + 1 := by unfold gaA; simp only [zu]; rw [if_pos trivial]
    rw [e4] at g1
    have e0 : gaA σ a t b (σ 0 + d) 0 = σ 0 := gaA_n h.1 h12 (by omega)
    rw [e0]
    unfold gaA
    simp only [zu]
    by_cases e : g = σ 4
    · rw [if_neg (by omega), if_pos (by omega)]; omega
    · rw [if_neg (by omega), if_neg (by omega), if_neg (by omega), if_neg (by omega), if_neg (by omega)]
      exact h.2.1 g g0 (by omega)
  · rw [gaA_n h.1 h12 (by omega)]; have := h.2.2 k k0 k1; omega
theorem ok_EndG (h : Ok n σ) {g : Int} (hk : kxGi σ g = 0) : Ok (n + 1) (nxEndG σ g) := by
  have h1 := kxGi_ok hk
  have hG := h.1.Gn
  refine Ok.sc ⟨h.1.dgFI h1, fun i g0 g1 => ?_, fun k k0 k1 => ?_⟩
  · have e4 : dgF σ g 4 = σ 4 - 1 := by rw [dgF_v, if_pos rfl]
    rw [e4] at g1
    rw [dgF_n (by omega) (by omega), dgF_v, if_neg (by omega)]
    split
    · rw [show 309 + 4 * i + 3 + 4 = 309 + 4 * (i + 1) + 3 by omega]; exact h.2.1 (i + 1) (by omega) (by omega)
    · exact h.2.1 i g0 (by omega)
  · rw [dgF_n (by omega) (by omega)]; have := h.2.2 k k0 k1; omega
theorem ok_Adj (h : Ok n σ) {p k b : Int} (hk : kxAdj σ p k b = 0) : Ok (n + 1) (nxAdj σ p k b) := by
  obtain ⟨h1, h2, h3, h4⟩ := kxAdj_ok hk
  refine (h.eq2 (h.1.amt (a := 2 * p + k) (by omega) (by omega)) (fun j hj => ?_) (fun i k0 k1 => ?_)).sc
  · simp only [zu]; rw [if_neg (by omega)]
  · simp only [zu]; split
    · right; omega
    · left; omega
theorem ok_re (h : In σ) (hg : Ge σ) : Ok n (reA σ 16) := by
  refine ⟨h.re (by omega), hg.eq (fun j hj => reA_n _ _ (by omega)), fun k k0 k1 => ?_⟩
  have q := coS_b h ((37 + k - 37) / 2) ((37 + k - 37) % 2)
  show (if 37 ≤ 37 + k ∧ 37 + k < 37 + 16 then coS σ ((37 + k - 37) / 2) ((37 + k - 37) % 2) else σ (37 + k)) ≤ _
  rw [if_pos (by omega)]
  omega
theorem ok_Rep (h : Ok n σ) : Ok (n + 1) (nxRep σ) := (ok_re h.1 h.2.1).sc
theorem Ok.ini : Ok 0 iniT := by
  refine ⟨iniT_I, fun g g0 g1 => absurd g1 (by rw [show iniT 4 = 0 from rfl]; omega), fun k k0 k1 => ?_⟩
  unfold iniT
  rw [bgF_v]
  (repeat' split) <;> omega
theorem lf_4 (b : Int → Int) (n : Int) (φ : Int → Int) (c : Int) (h : 0 ≤ Nm b n (Te b n c)) : ∀ k : Nat, lf b n φ c k 4 = φ 4
  | 0 => rfl
  | k + 1 => by
    show zu (zu (lf b n φ c k) _ _) _ _ 4 = φ 4
    simp only [zu]
    rw [if_neg (by omega), if_neg (by omega)]
    exact lf_4 b n φ c h k
theorem fSt_4 {b : Int → Int} {n : Int} {φ : Int → Int} {c : Int} (hI : In φ) (h : stX b n φ c = 0) : fSt b n φ c 4 = φ 4 := by
  have hF := hI.F
  have hM := hI.M
  unfold stX at h
  have hx : xSt b n φ c = 0 := by
    by_cases q : xSt b n φ c = 0
    · exact q
    · rw [if_neg q] at h; exact absurd h q
  unfold fSt
  split
  · rfl
  · rename_i q0
    split
    · rename_i q1
      unfold xSt at hx
      rw [if_neg q0, if_pos q1] at hx
      exact lf_4 b n φ c (lf_I hI 2 (by omega) hx).2.1 2
    · split
      · unfold fFld adF; simp only [zu]
        rw [if_neg (by omega), if_neg (by omega), if_neg (by omega), if_neg (by omega)]
      · split
        · unfold fTag
          have := fnS_lt hI (Wo b n (Te b n c))
          simp only [zu]
          rw [if_neg (by omega)]
        · unfold fFil afF; simp only [zu]
          rw [if_neg (by omega), if_neg (by omega), if_neg (by omega)]
theorem pF_4 {b : Int → Int} {n : Int} : ∀ (k : Nat) {φ : Int → Int} {c : Int}, In φ → c ≤ n → pF b n k φ c 4 = φ 4
  | 0, _, _, _, _ => rfl
  | k + 1, φ, c, h, hc => by
    rw [pF]
    split
    · rfl
    · split
      · rename_i q
        rw [pF_4 k (stX_I h hc q) (stC_b b hc).2, fSt_4 h q]
      · rfl
theorem ok_Load (h : Ok n σ) (b : Int → Int) {N : Int} (hN : 0 ≤ N) : Ok (n + 1) (nxLoad σ (ldF b N)) := by
  have hL := ldF_I b hN
  have hb : In (beA σ (ldF b N) 0 357) := In.beAI (fr := 0) hL (fun j j0 j1 => by rw [Int.zero_add]) h.1.bd
  refine (ok_re hb (fun g g0 g1 => absurd g1 ?_)).sc
  rw [beA_y σ _ 0 (by decide) (by decide), show (0 : Int) + 4 = 4 by decide]
  unfold ldF
  rw [pF_4 901 iniT_I hN, show iniT 4 = 0 from rfl]
  omega
theorem gift12 (h : Ok n σ) {a t b d : Int} (hk : kxGift σ a t b d = 0) : σ 4 < 12 := by
  obtain ⟨h1, h2, h3, h4, h5, h6⟩ := kxGift_ok hk
  have hG := h.1.Gn
  by_cases e : σ 4 = 12
  · exact absurd (Or.inr (Or.inr (Or.inl e))) h6
  · omega
/-! texts: what the class keeps of a buffer's signs -/
theorem sg8_zu (g : Int → Int) (i v : Int) : (fun j => sg8 (zu g i v j)) = zu (fun j => sg8 (g j)) i (sg8 v) := by
  funext j; simp only [zu]; split <;> rfl
theorem sg8_ap (β : Int → Int) (m v0 v1 v2 v3 v4 : Int) (k : Nat) : (fun j => sg8 (apB β m v0 v1 v2 v3 v4 (k + 1) j)) = zu (fun j => sg8 (apB β m v0 v1 v2 v3 v4 k j)) (m + k) (sg8 (apb (apV v0 v1 v2 v3 v4 k) k)) := sg8_zu _ _ _
theorem sg8_20 (β : Int → Int) (m a b c d e : Int) : (zu (zu (zu (zu (zu (zu (zu (zu (zu (zu (zu (zu (zu (zu (zu (zu (zu (zu (zu (zu (fun j => sg8 (β j)) m (sg8 (a / 16777216))) (m + 1) (sg8 (a / 65536))) (m + 2) (sg8 (a / 256))) (m + 3) (sg8 a)) (m + 4) (sg8 (b / 16777216))) ((m + 4) + 1) (sg8 (b / 65536))) ((m + 4) + 2) (sg8 (b / 256))) ((m + 4) + 3) (sg8 b)) (m + 8) (sg8 (c / 16777216))) ((m + 8) + 1) (sg8 (c / 65536))) ((m + 8) + 2) (sg8 (c / 256))) ((m + 8) + 3) (sg8 c)) (m + 12) (sg8 (d / 16777216))) ((m + 12) + 1) (sg8 (d / 65536))) ((m + 12) + 2) (sg8 (d / 256))) ((m + 12) + 3) (sg8 d)) (m + 16) (sg8 (e / 16777216))) ((m + 16) + 1) (sg8 (e / 65536))) ((m + 16) + 2) (sg8 (e / 256))) ((m + 16) + 3) (sg8 e)) = fun j => sg8 (apB β m a b c d e 20 j) := by
  have v0 : sg8 (apb (apV a b c d e ((0 : Nat) : Int)) ((0 : Nat) : Int)) = sg8 (a / 16777216) := by
    show sg8 (a / 16777216 % 256) = _
    rw [sg8_m]
  have v1 : sg8 (apb (apV a b c d e ((1 : Nat) : Int)) ((1 : Nat) : Int)) = sg8 (a / 65536) := by
    show sg8 (a / 65536 % 256) = _
    rw [sg8_m]
  have v2 : sg8 (apb (apV a b c d e ((2 : Nat) : Int)) ((2 : Nat) : Int)) = sg8 (a / 256) := by
    show sg8 (a / 256 % 256) = _
    rw [sg8_m]
  have v3 : sg8 (apb (apV a b c d e ((3 : Nat) : Int)) ((3 : Nat) : Int)) = sg8 a := by
    show sg8 (a / 1 % 256) = _
    rw [sg8_m]; rw [Int.ediv_one]
  have v4 : sg8 (apb (apV a b c d e ((4 : Nat) : Int)) ((4 : Nat) : Int)) = sg8 (b / 16777216) := by
    show sg8 (b / 16777216 % 256) = _
    rw [sg8_m]
  have v5 : sg8 (apb (apV a b c d e ((5 : Nat) : Int)) ((5 : Nat) : Int)) = sg8 (b / 65536) := by
    show sg8 (b / 65536 % 256) = _
    rw [sg8_m]
  have v6 : sg8 (apb (apV a b c d e ((6 : Nat) : Int)) ((6 : Nat) : Int)) = sg8 (b / 256) := by
    show sg8 (b / 256 % 256) = _
    rw [sg8_m]
  have v7 : sg8 (apb (apV a b c d e ((7 : Nat) : Int)) ((7 : Nat) : Int)) = sg8 b := by
    show sg8 (b / 1 % 256) = _
    rw [sg8_m]; rw [Int.ediv_one]
  have v8 : sg8 (apb (apV a b c d e ((8 : Nat) : Int)) ((8 : Nat) : Int)) = sg8 (c / 16777216) := by
    show sg8 (c / 16777216 % 256) = _
    rw [sg8_m]
  have v9 : sg8 (apb (apV a b c d e ((9 : Nat) : Int)) ((9 : Nat) : Int)) = sg8 (c / 65536) := by
    show sg8 (c / 65536 % 256) = _
    rw [sg8_m]
  have v10 : sg8 (apb (apV a b c d e ((10 : Nat) : Int)) ((10 : Nat) : Int)) = sg8 (c / 256) := by
    show sg8 (c / 256 % 256) = _
    rw [sg8_m]
  have v11 : sg8 (apb (apV a b c d e ((11 : Nat) : Int)) ((11 : Nat) : Int)) = sg8 c := by
    show sg8 (c / 1 % 256) = _
    rw [sg8_m]; rw [Int.ediv_one]
  have v12 : sg8 (apb (apV a b c d e ((12 : Nat) : Int)) ((12 : Nat) : Int)) = sg8 (d / 16777216) := by
    show sg8 (d / 16777216 % 256) = _
    rw [sg8_m]
  have v13 : sg8 (apb (apV a b c d e ((13 : Nat) : Int)) ((13 : Nat) : Int)) = sg8 (d / 65536) := by
    show sg8 (d / 65536 % 256) = _
    rw [sg8_m]
  have v14 : sg8 (apb (apV a b c d e ((14 : Nat) : Int)) ((14 : Nat) : Int)) = sg8 (d / 256) := by
    show sg8 (d / 256 % 256) = _
    rw [sg8_m]
  have v15 : sg8 (apb (apV a b c d e ((15 : Nat) : Int)) ((15 : Nat) : Int)) = sg8 d := by
    show sg8 (d / 1 % 256) = _
    rw [sg8_m]; rw [Int.ediv_one]
  have v16 : sg8 (apb (apV a b c d e ((16 : Nat) : Int)) ((16 : Nat) : Int)) = sg8 (e / 16777216) := by
    show sg8 (e / 16777216 % 256) = _
    rw [sg8_m]
  have v17 : sg8 (apb (apV a b c d e ((17 : Nat) : Int)) ((17 : Nat) : Int)) = sg8 (e / 65536) := by
    show sg8 (e / 65536 % 256) = _
    rw [sg8_m]
  have v18 : sg8 (apb (apV a b c d e ((18 : Nat) : Int)) ((18 : Nat) : Int)) = sg8 (e / 256) := by
    show sg8 (e / 256 % 256) = _
    rw [sg8_m]
  have v19 : sg8 (apb (apV a b c d e ((19 : Nat) : Int)) ((19 : Nat) : Int)) = sg8 e := by
    show sg8 (e / 1 % 256) = _
    rw [sg8_m]; rw [Int.ediv_one]
  rw [sg8_ap β m a b c d e 19, v19, sg8_ap β m a b c d e 18, v18, sg8_ap β m a b c d e 17, v17, sg8_ap β m a b c d e 16, v16, sg8_ap β m a b c d e 15, v15, sg8_ap β m a b c d e 14, v14, sg8_ap β m a b c d e 13, v13, sg8_ap β m a b c d e 12, v12, sg8_ap β m a b c d e 11, v11, sg8_ap β m a b c d e 10, v10, sg8_ap β m a b c d e 9, v9, sg8_ap β m a b c d e 8, v8, sg8_ap β m a b c d e 7, v7, sg8_ap β m a b c d e 6, v6, sg8_ap β m a b c d e 5, v5, sg8_ap β m a b c d e 4, v4, sg8_ap β m a b c d e 3, v3, sg8_ap β m a b c d e 2, v2, sg8_ap β m a b c d e 1, v1, sg8_ap β m a b c d e 0, v0]
  rw [show m + 4 + 1 = m + ((5 : Nat) : Int) by omega, show m + 4 + 2 = m + ((6 : Nat) : Int) by omega, show m + 4 + 3 = m + ((7 : Nat) : Int) by omega, show m + 8 + 1 = m + ((9 : Nat) : Int) by omega, show m + 8 + 2 = m + ((10 : Nat) : Int) by omega, show m + 8 + 3 = m + ((11 : Nat) : Int) by omega, show m + 12 + 1 = m + ((13 : Nat) : Int) by omega, show m + 12 + 2 = m + ((14 : Nat) : Int) by omega, show m + 12 + 3 = m + ((15 : Nat) : Int) by omega, show m + 16 + 1 = m + ((17 : Nat) : Int) by omega, show m + 16 + 2 = m + ((18 : Nat) : Int) by omega, show m + 16 + 3 = m + ((19 : Nat) : Int) by omega]
  rw [show m + ((0 : Nat) : Int) = m by omega]
  rfl
end OKS2
