section MD19
def md_q_oa (O L : Int → Int) (i : Int) : Int × Int := if md_in i 0 (O 11 - 1) = false then (1, 0) else (0, L i)
def md_q_ep (O : Int → Int) : Int × Int := if O 8 = -1 then (1, 0) else (0, O 8)
def md_q_fc (O : Int → Int) : Int × Int := if O 9 = -1 then (1, 0) else (0, O 9)
def md_ty (O : Int → Int) (c : Int) : Int × Int := if md_in c 32 126 = false then (1, 0) else if O 7 = 60 then (2, 0) else (0, O 7 + 1)
def md_tyS (σ : jk_I) (m : Nat) (O Bf : Int → Int) (c : Int) : jk_I := if md_in c 32 126 = false then md_th σ m O 1 else if O 7 = 60 then md_th σ m O 2 else jk_row (jk_row σ (m + 10) (jk_set Bf (O 7) c)) m (jk_set (jk_set O 7 (O 7 + 1)) 12 0)
theorem md_q2 {n : Nat} {t : jk_T} {σ' σ2 : jk_I} {ρ : jk_P} {v w : Int} (h1 : v = w) (h2 : σ' = σ2) : jk_q (some (jI v)) n t σ' ρ (some (jI w)) n t σ2 ρ := by subst h1 h2; exact jk_qr
def md_unG (h g O : Int → Int) : Int → Int := md_cpy h g ((O 3 - 1) * 240) 0 240
def md_un (O : Int → Int) : Int × Int := if O 3 = 0 then (1, 0) else (0, O 3 - 1)
def md_unS (σ : jk_I) (m : Nat) (O h g : Int → Int) : jk_I := if O 3 = 0 then md_th σ m O 1 else jk_row (jk_row σ (m + 2) (md_unG h g O)) m (jk_set (jk_set O 3 (O 3 - 1)) 12 0)
def md_saS (σ : jk_I) (m : Nat) (O g : Int → Int) : jk_I := jk_row (jk_row σ (m + 8) g) m (jk_set (jk_set O 5 1) 12 0)
def md_rs (O s : Int → Int) : Int × Int := if O 5 = 0 then (1, 0) else (0, s 1)
def md_rsS (σ : jk_I) (m : Nat) (O s : Int → Int) : jk_I := if O 5 = 0 then md_th σ m O 1 else jk_row (jk_row σ (m + 2) s) m (jk_set (jk_set O 3 0) 12 0)
end MD19
