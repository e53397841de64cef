/-! the same by names that don't unfold -/
section WRP
def Te (b : Int → Int) (n c : Int) : Int := if h : c < c then Te b n (c + 1) else te b n c
termination_by (0 : Nat)
decreasing_by all_goals first | omega | contradiction
theorem Te_f : Te = te := by
  funext b n c
  rw [Te, dif_neg (Int.lt_irrefl c)]
def Sk (b : Int → Int) (n c : Int) : Int := if h : c < c then Sk b n (c + 1) else sk b n c
termination_by (0 : Nat)
decreasing_by all_goals first | omega | contradiction
theorem Sk_f : Sk = sk := by
  funext b n c
  rw [Sk, dif_neg (Int.lt_irrefl c)]
def Kd (b : Int → Int) (n c : Int) : Int := if h : c < c then Kd b n (c + 1) else kd b n c
termination_by (0 : Nat)
decreasing_by all_goals first | omega | contradiction
theorem Kd_f : Kd = kd := by
  funext b n c
  rw [Kd, dif_neg (Int.lt_irrefl c)]
def Nm (b : Int → Int) (n c : Int) : Int := if h : c < c then Nm b n (c + 1) else nm b n c
termination_by (0 : Nat)
decreasing_by all_goals first | omega | contradiction
theorem Nm_f : Nm = nm := by
  funext b n c
  rw [Nm, dif_neg (Int.lt_irrefl c)]
def Wo (b : Int → Int) (n c : Int) : Int := if h : c < c then Wo b n (c + 1) else wo b n c
termination_by (0 : Nat)
decreasing_by all_goals first | omega | contradiction
theorem Wo_f : Wo = wo := by
  funext b n c
  rw [Wo, dif_neg (Int.lt_irrefl c)]
def RWd (b : Int → Int) (n c : Int) : Int := if h : c < c then RWd b n (c + 1) else rWd b n c
termination_by (0 : Nat)
decreasing_by all_goals first | omega | contradiction
theorem RWd_f : RWd = rWd := by
  funext b n c
  rw [RWd, dif_neg (Int.lt_irrefl c)]
def REnd (b : Int → Int) (n c : Int) : Int := if h : c < c then REnd b n (c + 1) else rEnd b n c
termination_by (0 : Nat)
decreasing_by all_goals first | omega | contradiction
theorem REnd_f : REnd = rEnd := by
  funext b n c
  rw [REnd, dif_neg (Int.lt_irrefl c)]
def RNum (b : Int → Int) (n c lo hi : Int) : Int := if h : c < c then RNum b n (c + 1) lo hi else rNum b n c lo hi
termination_by (0 : Nat)
decreasing_by all_goals first | omega | contradiction
theorem RNum_f : RNum = rNum := by
  funext b n c lo hi
  rw [RNum, dif_neg (Int.lt_irrefl c)]
def RFol (b : Int → Int) (n : Int) (φ : Int → Int) (c : Int) : Int := if h : c < c then RFol b n φ (c + 1) else rFol b n φ c
termination_by (0 : Nat)
decreasing_by all_goals first | omega | contradiction
theorem RFol_f : RFol = rFol := by
  funext b n φ c
  rw [RFol, dif_neg (Int.lt_irrefl c)]
def RNew (b : Int → Int) (n : Int) (φ : Int → Int) (c : Int) : Int := if h : c < c then RNew b n φ (c + 1) else rNew b n φ c
termination_by (0 : Nat)
decreasing_by all_goals first | omega | contradiction
theorem RNew_f : RNew = rNew := by
  funext b n φ c
  rw [RNew, dif_neg (Int.lt_irrefl c)]
def TKw (b : Int → Int) (n : Int) (μ : Int → Int) (c : Int) : Prop := (0 ≤ c ∧ c ≤ n) ∧ n ≤ 900 ∧ μ 7 = n ∧ μ 8 = Sk b n c ∧ μ 9 = Te b n c ∧ μ 10 = Kd b n c ∧ (Kd b n c = 0 → μ 15 = Wo b n c) ∧ (Kd b n c = 1 → μ 11 = Nm b n c)
theorem TKw_f : TKw = TK := by
  funext b n μ c
  unfold TKw TK
  rw [Te_f, Sk_f, Kd_f, Nm_f, Wo_f]
theorem TKw.c0 {b μ : Int → Int} {n c : Int} (h : TKw b n μ c) : (0 ≤ c ∧ c ≤ n) ∧ n ≤ 900 := ⟨h.1, h.2.1⟩
theorem TKw.n7 {b μ : Int → Int} {n c : Int} (h : TKw b n μ c) : μ 7 = n := h.2.2.1
theorem TKw.at8 {b μ : Int → Int} {n c : Int} (h : TKw b n μ c) : μ 8 = Sk b n c := h.2.2.2.1
theorem TKw.be9 {b μ : Int → Int} {n c : Int} (h : TKw b n μ c) : μ 9 = Te b n c := h.2.2.2.2.1
theorem TKw.ki10 {b μ : Int → Int} {n c : Int} (h : TKw b n μ c) : μ 10 = Kd b n c := h.2.2.2.2.2.1
theorem TKw.wo_ {b μ : Int → Int} {n c : Int} (h : TKw b n μ c) (k : Kd b n c = 0) : μ 15 = Wo b n c := h.2.2.2.2.2.2.1 k
theorem TKw.nu {b μ : Int → Int} {n c : Int} (h : TKw b n μ c) (k : Kd b n c = 1) : μ 11 = Nm b n c := h.2.2.2.2.2.2.2 k
theorem TKw.skb {b μ : Int → Int} {n c : Int} (h : TKw b n μ c) : c ≤ Sk b n c ∧ Sk b n c ≤ n := by rw [Sk_f]; exact sk_b b h.1.2
theorem TKw.teb {b μ : Int → Int} {n c : Int} (h : TKw b n μ c) : Sk b n c ≤ Te b n c ∧ Te b n c ≤ n := by rw [Sk_f, Te_f]; exact te_b b h.1.2
theorem Kd_b (b : Int → Int) (n c : Int) : 0 ≤ Kd b n c ∧ Kd b n c ≤ 3 := by rw [Kd_f]; exact kd_b b n c
theorem NmT_r {b : Int → Int} {n c : Int} (h : c ≤ n) (hk : Kd b n c = 1) : 0 ≤ Nm b n c ∧ Nm b n c ≤ 9999999 := by rw [Nm_f]; rw [Kd_f] at hk; exact nmT_r h hk
theorem RNum_0 {b : Int → Int} {n c lo hi : Int} (h : RNum b n c lo hi = 0) : Kd b n c = 1 ∧ lo ≤ Nm b n c ∧ Nm b n c ≤ hi := by
  rw [RNum_f] at h; rw [Kd_f, Nm_f]; exact rNum_0 h
theorem RNum_b (b : Int → Int) (n c lo hi : Int) : RNum b n c lo hi = 0 ∨ RNum b n c lo hi = -2 ∨ RNum b n c lo hi = -3 := by rw [RNum_f]; exact rNum_b b n c lo hi
theorem RFol_0 {b φ : Int → Int} {n c : Int} (h : RFol b n φ c = 0) : Kd b n c = 0 ∧ Te b n c - Sk b n c ≤ 8 ∧ ¬ fnS φ (Wo b n c) 0 = -1 := by
  rw [RFol_f] at h; rw [Kd_f, Te_f, Sk_f, Wo_f]; exact rFol_0 h
theorem RNew_0 {b φ : Int → Int} {n c : Int} (h : RNew b n φ c = 0) : Kd b n c = 0 ∧ Te b n c - Sk b n c ≤ 8 ∧ fnS φ (Wo b n c) 0 = -1 := by
  rw [RNew_f] at h; rw [Kd_f, Te_f, Sk_f, Wo_f]; exact rNew_0 h
theorem RFol_b (b φ : Int → Int) (n c : Int) : RFol b n φ c = 0 ∨ RFol b n φ c = -2 ∨ RFol b n φ c = -3 := by rw [RFol_f]; exact rFol_b b φ n c
theorem RNew_b (b φ : Int → Int) (n c : Int) : RNew b n φ c = 0 ∨ RNew b n φ c = -2 ∨ RNew b n φ c = -3 := by rw [RNew_f]; exact rNew_b b φ n c
/-! statements: the code of what is wrong in one, or 0; where; its row; c: where its first word begins or the blanks before it -/
def xGr (b : Int → Int) (n c : Int) : Int := RNum b n (Te b n c) 1 99
def xL1 (b : Int → Int) (n c : Int) : Int := if RNum b n c 0 99999 = 0 then (if Kd b n (Te b n c) = 1 ∧ 0 < Nm b n (Te b n c) ∧ Nm b n (Te b n c) < Nm b n c then -3 else RNum b n (Te b n c) 0 99999) else RNum b n c 0 99999
def pL1 (b : Int → Int) (n c : Int) : Int := if RNum b n c 0 99999 = 0 then Sk b n (Te b n c) else Sk b n c
/-- after k of the two kinds: the place, the code, where, the row -/
def lc (b : Int → Int) (n c : Int) : Nat → Int
  | 0 => Te b n (Te b n c)
  | k + 1 => Te b n (Te b n (lc b n c k))
def lx (b : Int → Int) (n c : Int) : Nat → Int
  | 0 => RNum b n (Te b n c) 0 7
  | k + 1 => if lx b n c k = 0 then xL1 b n (lc b n c k) else lx b n c k
def lp (b : Int → Int) (n c : Int) : Nat → Int
  | 0 => Sk b n (Te b n c)
  | k + 1 => if lx b n c k = 0 then pL1 b n (lc b n c k) else lp b n c k
def lf (b : Int → Int) (n : Int) (φ : Int → Int) (c : Int) : Nat → Int → Int
  | 0 => φ
  | k + 1 => zu (zu (lf b n φ c k) (5 + 2 * Nm b n (Te b n c) + k) (Nm b n (lc b n c k))) (21 + 2 * Nm b n (Te b n c) + k) (Nm b n (Te b n (lc b n c k)))
def xLim (b : Int → Int) (n c : Int) : Int := lx b n c 2
def pLim (b : Int → Int) (n c : Int) : Int := lp b n c 2
def cLim (b : Int → Int) (n c : Int) : Int := lc b n c 2
def fLim (b : Int → Int) (n : Int) (φ : Int → Int) (c : Int) : Int → Int := lf b n φ c 2
theorem lx_s (b : Int → Int) (n c : Int) {k : Int} (h : 0 ≤ k) : lx b n c (k + 1).toNat = if lx b n c k.toNat = 0 then xL1 b n (lc b n c k.toNat) else lx b n c k.toNat := by rw [show (k + 1).toNat = k.toNat + 1 by omega]; rfl
theorem lp_s (b : Int → Int) (n c : Int) {k : Int} (h : 0 ≤ k) : lp b n c (k + 1).toNat = if lx b n c k.toNat = 0 then pL1 b n (lc b n c k.toNat) else lp b n c k.toNat := by rw [show (k + 1).toNat = k.toNat + 1 by omega]; rfl
theorem lc_s (b : Int → Int) (n c : Int) {k : Int} (h : 0 ≤ k) : lc b n c (k + 1).toNat = Te b n (Te b n (lc b n c k.toNat)) := by rw [show (k + 1).toNat = k.toNat + 1 by omega]; rfl
theorem lf_s (b : Int → Int) (n : Int) (φ : Int → Int) (c : Int) {k : Int} (h : 0 ≤ k) : lf b n φ c (k + 1).toNat = zu (zu (lf b n φ c k.toNat) (5 + 2 * Nm b n (Te b n c) + k) (Nm b n (lc b n c k.toNat))) (21 + 2 * Nm b n (Te b n c) + k) (Nm b n (Te b n (lc b n c k.toNat))) := by rw [show (k + 1).toNat = k.toNat + 1 by omega, lf, show ((k.toNat : Nat) : Int) = k by omega]
def xFld (b : Int → Int) (n : Int) (φ : Int → Int) (c : Int) : Int := if φ 2 = 40 then -4 else if RNew b n φ (Te b n c) = 0 then RFol b n φ (Te b n (Te b n c)) else RNew b n φ (Te b n c)
def pFld (b : Int → Int) (n : Int) (φ : Int → Int) (c : Int) : Int := if φ 2 = 40 then Sk b n c else if RNew b n φ (Te b n c) = 0 then Sk b n (Te b n (Te b n c)) else Sk b n (Te b n c)
def cFld (b : Int → Int) (n c : Int) : Int := Te b n (Te b n (Te b n c))
def fFld (b : Int → Int) (n : Int) (φ : Int → Int) (c : Int) : Int → Int := adF φ (fnS φ (Wo b n (Te b n (Te b n c))) 0) (Wo b n (Te b n c))
def xTag (b : Int → Int) (n : Int) (φ : Int → Int) (c : Int) : Int := if RFol b n φ (Te b n c) = 0 then RNum b n (Te b n (Te b n c)) 0 7 else RFol b n φ (Te b n c)
def pTag (b : Int → Int) (n : Int) (φ : Int → Int) (c : Int) : Int := if RFol b n φ (Te b n c) = 0 then Sk b n (Te b n (Te b n c)) else Sk b n (Te b n c)
def fTag (b : Int → Int) (n : Int) (φ : Int → Int) (c : Int) : Int → Int := zu φ (109 + fnS φ (Wo b n (Te b n c)) 0) (Nm b n (Te b n (Te b n c)))
def xFil (b : Int → Int) (n : Int) (φ : Int → Int) (c : Int) : Int := if φ 3 = 60 then -4 else if RFol b n φ (Te b n c) = 0 then RNum b n (Te b n (Te b n c)) 0 9999 else RFol b n φ (Te b n c)
def pFil (b : Int → Int) (n : Int) (φ : Int → Int) (c : Int) : Int := if φ 3 = 60 then Sk b n c else if RFol b n φ (Te b n c) = 0 then Sk b n (Te b n (Te b n c)) else Sk b n (Te b n c)
def fFil (b : Int → Int) (n : Int) (φ : Int → Int) (c : Int) : Int → Int := afF φ (fnS φ (Wo b n (Te b n c)) 0) (Nm b n (Te b n (Te b n c)))
theorem xL1_b (b : Int → Int) (n c : Int) : xL1 b n c = 0 ∨ xL1 b n c = -2 ∨ xL1 b n c = -3 := by
  have h1 := RNum_b b n c 0 99999
  have h2 := RNum_b b n (Te b n c) 0 99999
  unfold xL1; (repeat' split) <;> omega
theorem lx_b (b : Int → Int) (n c : Int) : ∀ k : Nat, lx b n c k = 0 ∨ lx b n c k = -2 ∨ lx b n c k = -3
  | 0 => RNum_b b n _ 0 7
  | k + 1 => by
    have h1 := lx_b b n c k
    have h2 := xL1_b b n (lc b n c k)
    rw [lx]; split <;> omega
end WRP
