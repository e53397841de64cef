/-! a statement; what is wrong in it, where; its end; its row -/
def xSt (b : Int → Int) (n : Int) (φ : Int → Int) (c : Int) : Int := if RWd b n c = 0 ∧ Wo b n c = wcS 0 then xGr b n c else if RWd b n c = 0 ∧ Wo b n c = wcS 1 then xLim b n c else if RWd b n c = 0 ∧ Wo b n c = wcS 2 then xFld b n φ c else if RWd b n c = 0 ∧ Wo b n c = wcS 3 then xTag b n φ c else if RWd b n c = 0 ∧ Wo b n c = wcS 4 then xFil b n φ c else -2
def pSt (b : Int → Int) (n : Int) (φ : Int → Int) (c : Int) : Int := if RWd b n c = 0 ∧ Wo b n c = wcS 0 then Sk b n (Te b n c) else if RWd b n c = 0 ∧ Wo b n c = wcS 1 then pLim b n c else if RWd b n c = 0 ∧ Wo b n c = wcS 2 then pFld b n φ c else if RWd b n c = 0 ∧ Wo b n c = wcS 3 then pTag b n φ c else if RWd b n c = 0 ∧ Wo b n c = wcS 4 then pFil b n φ c else Sk b n c
def cSt (b : Int → Int) (n c : Int) : Int := if RWd b n c = 0 ∧ Wo b n c = wcS 0 then Te b n (Te b n c) else if RWd b n c = 0 ∧ Wo b n c = wcS 1 then cLim b n c else Te b n (Te b n (Te b n c))
def fSt (b : Int → Int) (n : Int) (φ : Int → Int) (c : Int) : Int → Int := if RWd b n c = 0 ∧ Wo b n c = wcS 0 then zu φ 1 (Nm b n (Te b n c)) else if RWd b n c = 0 ∧ Wo b n c = wcS 1 then fLim b n φ c else if RWd b n c = 0 ∧ Wo b n c = wcS 2 then fFld b n φ c else if RWd b n c = 0 ∧ Wo b n c = wcS 3 then fTag b n φ c else fFil b n φ c
def stX (b : Int → Int) (n : Int) (φ : Int → Int) (c : Int) : Int := if xSt b n φ c = 0 then REnd b n (cSt b n c) else xSt b n φ c
def stP (b : Int → Int) (n : Int) (φ : Int → Int) (c : Int) : Int := if xSt b n φ c = 0 then Sk b n (cSt b n c) else pSt b n φ c
def stC (b : Int → Int) (n c : Int) : Int := Te b n (cSt b n c)
theorem REnd_y {b : Int → Int} {n c : Int} (h : Kd b n c = 2 ∧ b (Sk b n c) = 59) : REnd b n c = 0 := by
  rw [REnd_f]; rw [Kd_f, Sk_f] at h; unfold rEnd; rw [if_pos h]
theorem REnd_n {b : Int → Int} {n c : Int} (h : ¬ (Kd b n c = 2 ∧ b (Sk b n c) = 59)) : REnd b n c = -2 := by
  rw [REnd_f]; rw [Kd_f, Sk_f] at h; unfold rEnd; rw [if_neg h]
