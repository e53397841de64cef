/-! a statement; what is wrong in it, where; its end; its row -/
def xSt (b : Int → Int) (n : Int) (φ : Int → Int) (c : Int) : Int := if RWd b n c = 0 ∧ Wo b n c = wcS 0 then xGr b n c else if RWd b n c = 0 ∧ Wo b n c = wcS 1 then xLim b n c else if RWd b n c = 0 ∧ Wo b n c = wcS 2 then xFld b n φ c else if RWd b n c = 0 ∧ Wo b n c = wcS 3 then xTag b n φ c else if RWd b n c = 0 ∧ Wo b n c = wcS 4 then xFil b n φ c else -2
def pSt (b : Int → Int) (n : Int) (φ : Int → Int) (c : Int) : Int := if RWd b n c = 0 ∧ Wo b n c = wcS 0 then Sk b n (Te b n c) else if RWd b n c = 0 ∧ Wo b n c = wcS 1 then pLim b n c else if RWd b n c = 0 ∧ Wo b n c = wcS 2 then pFld b n φ c else if RWd b n c = 0 ∧ Wo b n c = wcS 3 then pTag b n φ c else if RWd b n c = 0 ∧ Wo b n c = wcS 4 then pFil b n φ c else Sk b n c
def cSt (b : Int → Int) (n c : Int) : Int := if RWd b n c = 0 ∧ Wo b n c = wcS 0 then Te b n (Te b n c) else if RWd b n c = 0 ∧ Wo b n c = wcS 1 then cLim b n c else Te b n (Te b n (Te b n c))
def fSt (b : Int → Int) (n : Int) (φ : Int → Int) (c : Int) : Int → Int := if RWd b n c = 0 ∧ Wo b n c = wcS 0 then zu φ 1 (Nm b n (Te b n c)) else if RWd b n c = 0 ∧ Wo b n c = wcS 1 then fLim b n φ c else if RWd b n c = 0 ∧ Wo b n c = wcS 2 then fFld b n φ c else if RWd b n c = 0 ∧ Wo b n c = wcS 3 then fTag b n φ c else fFil b n φ c
def stX (b : Int → Int) (n : Int) (φ : Int → Int) (c : Int) : Int := if xSt b n φ c = 0 then REnd b n (cSt b n c) else xSt b n φ c
def stP (b : Int → Int) (n : Int) (φ : Int → Int) (c : Int) : Int := if xSt b n φ c = 0 then Sk b n (cSt b n c) else pSt b n φ c
def stC (b : Int → Int) (n c : Int) : Int := Te b n (cSt b n c)
theorem REnd_y {b : Int → Int} {n c : Int} (h : Kd b n c = 2 ∧ b (Sk b n c) = 59) : REnd b n c = 0 := by
  rw [REnd_f]; rw [Kd_f, Sk_f] at h; unfold rEnd; rw [if_pos h]
theorem REnd_n {b : Int → Int} {n c : Int} (h : ¬ (Kd b n c = 2 ∧ b (Sk b n c) = 59)) : REnd b n c = -2 := by
  rw [REnd_f]; rw [Kd_f, Sk_f] at h; unfold rEnd; rw [if_neg h]
theorem Kd_3 {b : Int → Int} {n c : Int} : Kd b n c = 3 ↔ n ≤ Sk b n c := by rw [Kd_f, Sk_f]; exact kd_3
theorem xFld_b (b φ : Int → Int) (n c : Int) : -4 ≤ xFld b n φ c ∧ xFld b n φ c ≤ 0 := by
  have h1 := RNew_b b φ n (Te b n c)
  have h2 := RFol_b b φ n (Te b n (Te b n c))
  unfold xFld; (repeat' split) <;> omega
theorem xTag_b (b φ : Int → Int) (n c : Int) : -4 ≤ xTag b n φ c ∧ xTag b n φ c ≤ 0 := by
  have h1 := RFol_b b φ n (Te b n c)
  have h2 := RNum_b b n (Te b n (Te b n c)) 0 7
  unfold xTag; (repeat' split) <;> omega
theorem xFil_b (b φ : Int → Int) (n c : Int) : -4 ≤ xFil b n φ c ∧ xFil b n φ c ≤ 0 := by
  have h1 := RFol_b b φ n (Te b n c)
  have h2 := RNum_b b n (Te b n (Te b n c)) 0 9999
  unfold xFil; (repeat' split) <;> omega
theorem xLim_b (b φ : Int → Int) (n c : Int) : -4 ≤ xLim b n c ∧ xLim b n c ≤ 0 := by
  have h := lx_b b n c 2
  unfold xLim; omega
theorem REnd_b (b : Int → Int) (n c : Int) : REnd b n c = 0 ∨ REnd b n c = -2 := by
  by_cases h : Kd b n c = 2 ∧ b (Sk b n c) = 59
  · exact Or.inl (REnd_y h)
  · exact Or.inr (REnd_n h)
theorem stX_b (b φ : Int → Int) (n c : Int) : -4 ≤ stX b n φ c ∧ stX b n φ c ≤ 0 := by
  have h1 := RNum_b b n (Te b n c) 1 99
  have h2 := xLim_b b φ n c
  have h3 := xFld_b b φ n c
  have h4 := xTag_b b φ n c
  have h5 := xFil_b b φ n c
  have h6 := REnd_b b n (cSt b n c)
  have h7 : -4 ≤ xSt b n φ c ∧ xSt b n φ c ≤ 0 := by
    unfold xSt xGr; (repeat' split) <;> omega
  unfold stX; split <;> omega
