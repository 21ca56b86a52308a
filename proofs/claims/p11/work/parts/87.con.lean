/-! what a block costs in the model -/
def wsm (O : Nat → Int32) (c : Nat → Int) (n : Nat) : Int := sm (fun k => (O k).toInt * c k) n
/-- what a part adds -/
def sc (M B Y fb fd : Nat → Int32) (c e : Nat → Int) (k : Nat) : Int := if (B k).toInt = 0 then c (Y k).toInt.toNat else c (257 + lcF fb (M k).toInt 28) + e (lcF fd (B k).toInt 29)
def upd1 (O O' : Nat → Int32) (a : Nat) : Prop := (O' a).toInt = (O a).toInt + 1 ∧ ∀ s, s ≠ a → O' s = O s
theorem upd1_of {h h2 : ez_H} {c x : Nat} {o v : Int32} (e : h2 = ez_setI h c x v) (eo : ez_I h c x = o) (hv : v.toInt = o.toInt + 1) : upd1 (ez_I h c) (ez_I h2 c) x := ⟨by rw [zI_eq e, eo]; exact hv, fun s hs => zI_ne e (by omega)⟩
/-- and of the block's end -/
def cE (O P M B Y fb fd : Nat → Int32) (fr k : Nat) : Prop := aR O 288 0 1000 ∧ aR P 30 0 1000 ∧ ∀ c e : Nat → Int, wsm O c 286 + wsm P e 30 = sm (sc M B Y fb fd c e) k - sm (sc M B Y fb fd c e) fr + c 256
/-! PRINTED by wip/p17/con14.py: contracts of the model, costs, parts written, the row told -/
