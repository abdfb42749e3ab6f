/-- X12_look -/
def kr_q60 : SU := (236, 3, [.inr (.inl (some 0)), .inr (.inr (.inr (0, 4294967295)))], some (0, 4294967295), [(0, 0)])
set_option maxRecDepth 1000000 in
theorem kr_q60_ok (l : Launch) (G : PG) (lam : Nat → Nat) (hl : LAMR lam) (EX : PH → Prop) (hx : EXK lam EX) : SUOK lam TRf EX l G kr_q60 := chk_ok (sums := [kr_q30]) (F := 20000) MT_ok (hx _ (by decide +kernel)) (hiL hl (by decide +kernel)) (suc (kr_q30_ok l G lam hl EX hx) sun) (by decide +kernel)
