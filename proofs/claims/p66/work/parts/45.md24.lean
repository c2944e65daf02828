section MD24
/-- the command at k, carried out in the state g -/
def md_do (P : Int → Int) (k : Int) (g : Int → Int) : md_R3 :=
  if P k = 98 then md_addsRun g (P (k + 1)) (P (k + 2)) else
  if P k = 101 then md_marks g (P (k + 1)) 0 else
  if P k = 102 then md_fixes g (P (k + 1)) (P (k + 2)) else
  if P k = 104 then md_shares g (P (k + 1)) else
  if P k = 105 then md_marks g (P (k + 1)) 1 else
  if P k = 108 then md_addsLine g (P (k + 1)) (P (k + 2)) (P (k + 3)) (P (k + 4)) else
  if P k = 111 then md_addsProfile g (P (k + 1)) else
  if P k = 112 then md_addsPoint g else
  if P k = 114 then md_resets g else
  if P k = 115 then md_addsStation g (P (k + 1)) (P (k + 2)) (P (k + 3)) else
  if P k = 117 then md_releases g (P (k + 1)) else md_setsWater g (P (k + 1))
def md_doS (σ : jk_I) (m : Nat) (g P : Int → Int) (k : Int) : jk_I := if P k = 104 then md_shS σ m g (P (k + 1)) else σ
theorem md_qdo {n : Nat} {t : jk_T} {σ σ' σ2 : jk_I} {ρ : jk_P} {m : Nat} {O g P : Int → Int} {k v : Int} {r : md_R3} (hr : md_do P k g = r) (h2 : md_doS σ m g P k = σ2) (hv : r.2.1 = v) (hs : σ' = md_res σ2 m O r) : jk_q (some (jI (md_do P k g).2.1)) n t (md_res (md_doS σ m g P k) m O (md_do P k g)) ρ (some (jI v)) n t σ' ρ := by subst hr h2 hv hs; exact jk_qr
end MD24
