/-! the law's loop, over a relation of the two halves that each step keeps; its start and its end (by program: wip/whole/gen27.py) -/
def st_setPond (Rel : mw_I → Prop) : Prop := ∀ (l : Launch) (I : mw_I) (L : mw_L) (x1 x2 x3 x4 : Int32), Rel I → ∃ (k0 : Int32) (J K : mw_I) (L' : mw_L) (dm : Nat), dm < 14 ∧ mw_CT l yL_setPond (.codeWith yL_setPond cL_setPond 6 (some .int) [(0, 9, 12, 13)]) 13 10 60 [.ref 0, .int x1, .int x2, .int x3, .int x4] (mw_Y0, I, L) (.inl (some (.int k0), mw_Y0, J, L')) ∧ mw_CT l yX2_setPond (.code yX2_setPond cX2_setPond 5 none) dm 0 0 [.ref 40, .int x1, .int x2, .int x3, .int x4] (mw_Y0, J, L') (.inl (none, mw_Y0, K, L')) ∧ K 40 19 = k0 ∧ Rel K
def st_setInflow (Rel : mw_I → Prop) : Prop := ∀ (l : Launch) (I : mw_I) (L : mw_L) (x1 x2 x3 : Int32), Rel I → ∃ (k0 b0 : Int32) (J K : mw_I) (L' : mw_L) (dm : Nat), dm < 14 ∧ mw_CT l yL_setInflow (.codeWith yL_setInflow cL_setInflow 6 (some .int) [(0, 12, 15, 13)]) 13 10 60 [.ref 0, .int x1, .int x2, .int x3, .ref 59] (mw_Y0, I, L) (.inl (some (.int k0), mw_Y0, J, L')) ∧ mw_CT l yX2_setInflow (.code yX2_setInflow cX2_setInflow 5 (some .int)) dm 0 0 [.ref 40, .int x1, .int x2, .int x3] (mw_Y0, J, L') (.inl (some (.int b0), mw_Y0, K, L')) ∧ K 40 19 = k0 ∧ (k0 = 0 → L' 59 0 = b0.toInt64) ∧ Rel K
def st_setMinimum (Rel : mw_I → Prop) : Prop := ∀ (l : Launch) (I : mw_I) (L : mw_L) (x1 x2 : Int32), Rel I → ∃ (k0 b0 : Int32) (J K : mw_I) (L' : mw_L) (dm : Nat), dm < 14 ∧ mw_CT l yL_setMinimum (.codeWith yL_setMinimum cL_setMinimum 5 (some .int) [(0, 10, 13, 13)]) 13 10 60 [.ref 0, .int x1, .int x2, .ref 59] (mw_Y0, I, L) (.inl (some (.int k0), mw_Y0, J, L')) ∧ mw_CT l yX2_setMinimum (.code yX2_setMinimum cX2_setMinimum 4 (some .int)) dm 0 0 [.ref 40, .int x1, .int x2] (mw_Y0, J, L') (.inl (some (.int b0), mw_Y0, K, L')) ∧ K 40 19 = k0 ∧ (k0 = 0 → L' 59 0 = b0.toInt64) ∧ Rel K
def st_order (Rel : mw_I → Prop) : Prop := ∀ (l : Launch) (I : mw_I) (L : mw_L) (x1 x2 x3 : Int32), Rel I → ∃ (k0 b0 : Int32) (J K : mw_I) (L' : mw_L) (dm : Nat), dm < 14 ∧ mw_CT l yL_order (.codeWith yL_order cL_order 6 (some .int) [(0, 12, 15, 13)]) 13 10 60 [.ref 0, .int x1, .int x2, .int x3, .ref 59] (mw_Y0, I, L) (.inl (some (.int k0), mw_Y0, J, L')) ∧ mw_CT l yX2_order (.code yX2_order cX2_order 5 (some .int)) dm 0 0 [.ref 40, .int x1, .int x2, .int x3] (mw_Y0, J, L') (.inl (some (.int b0), mw_Y0, K, L')) ∧ K 40 19 = k0 ∧ (k0 = 0 → L' 59 0 = b0.toInt64) ∧ Rel K
def st_setYield (Rel : mw_I → Prop) : Prop := ∀ (l : Launch) (I : mw_I) (L : mw_L) (x1 x2 x3 x4 : Int32), Rel I → ∃ (k0 b0 : Int32) (J K : mw_I) (L' : mw_L) (dm : Nat), dm < 14 ∧ mw_CT l yL_setYield (.codeWith yL_setYield cL_setYield 7 (some .int) [(0, 14, 17, 13)]) 13 10 60 [.ref 0, .int x1, .int x2, .int x3, .int x4, .ref 59] (mw_Y0, I, L) (.inl (some (.int k0), mw_Y0, J, L')) ∧ mw_CT l yX2_setYield (.code yX2_setYield cX2_setYield 7 (some .int)) dm 0 0 [.ref 40, .int x1, .int x2, .int x3, .int x4] (mw_Y0, J, L') (.inl (some (.int b0), mw_Y0, K, L')) ∧ K 40 19 = k0 ∧ (k0 = 0 → L' 59 0 = b0.toInt64) ∧ Rel K
def st_run (Rel : mw_I → Prop) : Prop := ∀ (l : Launch) (I : mw_I) (L : mw_L) (x1 : Int32), Rel I → ∃ (k0 b0 : Int32) (J K : mw_I) (L' : mw_L) (dm : Nat), dm < 14 ∧ mw_CT l yL_run (.codeWith yL_run cL_run 4 (some .int) [(0, 9, 12, 13), (0, 9, 15, 34)]) 13 10 60 [.ref 0, .int x1, .ref 59] (mw_Y0, I, L) (.inl (some (.int k0), mw_Y0, J, L')) ∧ mw_CT l yX2_run (.code yX2_run cX2_run 4 (some .int)) dm 0 0 [.ref 40, .int x1] (mw_Y0, J, L') (.inl (some (.int b0), mw_Y0, K, L')) ∧ K 40 19 = k0 ∧ (k0 = 0 → L' 59 0 = b0.toInt64) ∧ Rel K
def st_lend (Rel : mw_I → Prop) : Prop := ∀ (l : Launch) (I : mw_I) (L : mw_L) (x1 x2 x3 : Int32), Rel I → ∃ (k0 b0 : Int32) (J K : mw_I) (L' : mw_L) (dm : Nat), dm < 14 ∧ mw_CT l yL_lend (.codeWith yL_lend cL_lend 6 (some .int) [(0, 12, 15, 13), (0, 12, 19, 34)]) 13 10 60 [.ref 0, .int x1, .int x2, .int x3, .ref 59] (mw_Y0, I, L) (.inl (some (.int k0), mw_Y0, J, L')) ∧ mw_CT l yX2_lend (.code yX2_lend cX2_lend 4 (some .int)) dm 0 0 [.ref 40, .int x1, .int x2, .int x3] (mw_Y0, J, L') (.inl (some (.int b0), mw_Y0, K, L')) ∧ K 40 19 = k0 ∧ (k0 = 0 → L' 59 0 = b0.toInt64) ∧ Rel K
def st_account (Rel : mw_I → Prop) : Prop := ∀ (l : Launch) (I : mw_I) (L : mw_L) (x1 x2 : Int32), Rel I → ∃ (k0 b0 : Int32) (J K : mw_I) (L' : mw_L) (dm : Nat), dm < 14 ∧ mw_CT l yL_account (.codeWith yL_account cL_account 5 (some .int) [(0, 10, 13, 13)]) 13 10 60 [.ref 0, .int x1, .int x2, .ref 59] (mw_Y0, I, L) (.inl (some (.int k0), mw_Y0, J, L')) ∧ mw_CT l yX2_account (.code yX2_account cX2_account 3 (some .int)) dm 0 0 [.ref 40, .int x1, .int x2] (mw_Y0, J, L') (.inl (some (.int b0), mw_Y0, K, L')) ∧ K 40 19 = k0 ∧ (k0 = 0 → L' 59 0 = b0.toInt64) ∧ Rel K
def st_level (Rel : mw_I → Prop) : Prop := ∀ (l : Launch) (I : mw_I) (L : mw_L) (x1 : Int32), Rel I → ∃ (k0 b0 : Int32) (J K : mw_I) (L' : mw_L) (dm : Nat), dm < 14 ∧ mw_CT l yL_level (.codeWith yL_level cL_level 4 (some .int) [(0, 9, 12, 13)]) 13 10 60 [.ref 0, .int x1, .ref 59] (mw_Y0, I, L) (.inl (some (.int k0), mw_Y0, J, L')) ∧ mw_CT l yX2_level (.code yX2_level cX2_level 2 (some .int)) dm 0 0 [.ref 40, .int x1] (mw_Y0, J, L') (.inl (some (.int b0), mw_Y0, K, L')) ∧ K 40 19 = k0 ∧ (k0 = 0 → L' 59 0 = b0.toInt64) ∧ Rel K
def st_travelling (Rel : mw_I → Prop) : Prop := ∀ (l : Launch) (I : mw_I) (L : mw_L) (x1 x2 : Int32), Rel I → ∃ (k0 b0 : Int32) (J K : mw_I) (L' : mw_L) (dm : Nat), dm < 14 ∧ mw_CT l yL_travelling (.codeWith yL_travelling cL_travelling 5 (some .int) [(0, 10, 13, 13)]) 13 10 60 [.ref 0, .int x1, .int x2, .ref 59] (mw_Y0, I, L) (.inl (some (.int k0), mw_Y0, J, L')) ∧ mw_CT l yX2_travelling (.code yX2_travelling cX2_travelling 5 (some .int)) dm 0 0 [.ref 40, .int x1, .int x2] (mw_Y0, J, L') (.inl (some (.int b0), mw_Y0, K, L')) ∧ K 40 19 = k0 ∧ (k0 = 0 → L' 59 0 = b0.toInt64) ∧ Rel K
def st_arriving (Rel : mw_I → Prop) : Prop := ∀ (l : Launch) (I : mw_I) (L : mw_L) (x1 x2 x3 : Int32), Rel I → ∃ (k0 b0 : Int32) (J K : mw_I) (L' : mw_L) (dm : Nat), dm < 14 ∧ mw_CT l yL_arriving (.codeWith yL_arriving cL_arriving 6 (some .int) [(0, 12, 15, 13)]) 13 10 60 [.ref 0, .int x1, .int x2, .int x3, .ref 59] (mw_Y0, I, L) (.inl (some (.int k0), mw_Y0, J, L')) ∧ mw_CT l yX2_arriving (.code yX2_arriving cX2_arriving 4 (some .int)) dm 0 0 [.ref 40, .int x1, .int x2, .int x3] (mw_Y0, J, L') (.inl (some (.int b0), mw_Y0, K, L')) ∧ K 40 19 = k0 ∧ (k0 = 0 → L' 59 0 = b0.toInt64) ∧ Rel K
def st_cameIn (Rel : mw_I → Prop) : Prop := ∀ (l : Launch) (I : mw_I) (L : mw_L) (x1 : Int32), Rel I → ∃ (k0 b0 : Int32) (J K : mw_I) (L' : mw_L) (dm : Nat), dm < 14 ∧ mw_CT l yL_cameIn (.codeWith yL_cameIn cL_cameIn 4 (some .int) [(0, 9, 12, 13)]) 13 10 60 [.ref 0, .int x1, .ref 59] (mw_Y0, I, L) (.inl (some (.int k0), mw_Y0, J, L')) ∧ mw_CT l yX2_cameIn (.code yX2_cameIn cX2_cameIn 2 (some .int)) dm 0 0 [.ref 40, .int x1] (mw_Y0, J, L') (.inl (some (.int b0), mw_Y0, K, L')) ∧ K 40 19 = k0 ∧ (k0 = 0 → L' 59 0 = b0.toInt64) ∧ Rel K
def st_gone (Rel : mw_I → Prop) : Prop := ∀ (l : Launch) (I : mw_I) (L : mw_L) (x1 : Int32), Rel I → ∃ (k0 b0 : Int32) (J K : mw_I) (L' : mw_L) (dm : Nat), dm < 14 ∧ mw_CT l yL_gone (.codeWith yL_gone cL_gone 4 (some .int) [(0, 9, 12, 13)]) 13 10 60 [.ref 0, .int x1, .ref 59] (mw_Y0, I, L) (.inl (some (.int k0), mw_Y0, J, L')) ∧ mw_CT l yX2_gone (.code yX2_gone cX2_gone 2 (some .int)) dm 0 0 [.ref 40, .int x1] (mw_Y0, J, L') (.inl (some (.int b0), mw_Y0, K, L')) ∧ K 40 19 = k0 ∧ (k0 = 0 → L' 59 0 = b0.toInt64) ∧ Rel K
def st_balance (Rel : mw_I → Prop) : Prop := ∀ (l : Launch) (I : mw_I) (L : mw_L) (x1 : Int32), Rel I → ∃ (k0 b0 : Int32) (J K : mw_I) (L' : mw_L) (dm : Nat), dm < 14 ∧ mw_CT l yL_balance (.codeWith yL_balance cL_balance 4 (some .int) [(0, 9, 12, 13)]) 13 10 60 [.ref 0, .int x1, .ref 59] (mw_Y0, I, L) (.inl (some (.int k0), mw_Y0, J, L')) ∧ mw_CT l yX2_balance (.code yX2_balance cX2_balance 2 (some .int)) dm 0 0 [.ref 40, .int x1] (mw_Y0, J, L') (.inl (some (.int b0), mw_Y0, K, L')) ∧ K 40 19 = k0 ∧ (k0 = 0 → L' 59 0 = b0.toInt64) ∧ Rel K
def st_spilled (Rel : mw_I → Prop) : Prop := ∀ (l : Launch) (I : mw_I) (L : mw_L) (x1 : Int32), Rel I → ∃ (k0 b0 : Int32) (J K : mw_I) (L' : mw_L) (dm : Nat), dm < 14 ∧ mw_CT l yL_spilled (.codeWith yL_spilled cL_spilled 4 (some .int) [(0, 9, 12, 13)]) 13 10 60 [.ref 0, .int x1, .ref 59] (mw_Y0, I, L) (.inl (some (.int k0), mw_Y0, J, L')) ∧ mw_CT l yX2_spilled (.code yX2_spilled cX2_spilled 2 (some .int)) dm 0 0 [.ref 40, .int x1] (mw_Y0, J, L') (.inl (some (.int b0), mw_Y0, K, L')) ∧ K 40 19 = k0 ∧ (k0 = 0 → L' 59 0 = b0.toInt64) ∧ Rel K
def st_missed (Rel : mw_I → Prop) : Prop := ∀ (l : Launch) (I : mw_I) (L : mw_L) (x1 : Int32), Rel I → ∃ (k0 b0 : Int32) (J K : mw_I) (L' : mw_L) (dm : Nat), dm < 14 ∧ mw_CT l yL_missed (.codeWith yL_missed cL_missed 4 (some .int) [(0, 9, 12, 13)]) 13 10 60 [.ref 0, .int x1, .ref 59] (mw_Y0, I, L) (.inl (some (.int k0), mw_Y0, J, L')) ∧ mw_CT l yX2_missed (.code yX2_missed cX2_missed 2 (some .int)) dm 0 0 [.ref 40, .int x1] (mw_Y0, J, L') (.inl (some (.int b0), mw_Y0, K, L')) ∧ K 40 19 = k0 ∧ (k0 = 0 → L' 59 0 = b0.toInt64) ∧ Rel K
def st_flow (Rel : mw_I → Prop) : Prop := ∀ (l : Launch) (I : mw_I) (L : mw_L) (x1 : Int32), Rel I → ∃ (k0 b0 : Int32) (J K : mw_I) (L' : mw_L) (dm : Nat), dm < 14 ∧ mw_CT l yL_flow (.codeWith yL_flow cL_flow 4 (some .int) [(0, 9, 12, 13)]) 13 10 60 [.ref 0, .int x1, .ref 59] (mw_Y0, I, L) (.inl (some (.int k0), mw_Y0, J, L')) ∧ mw_CT l yX2_flow (.code yX2_flow cX2_flow 2 (some .int)) dm 0 0 [.ref 40, .int x1] (mw_Y0, J, L') (.inl (some (.int b0), mw_Y0, K, L')) ∧ K 40 19 = k0 ∧ (k0 = 0 → L' 59 0 = b0.toInt64) ∧ Rel K
def st_energy (Rel : mw_I → Prop) : Prop := ∀ (l : Launch) (I : mw_I) (L : mw_L) (x1 : Int32), Rel I → ∃ (k0 b0 : Int32) (J K : mw_I) (L' : mw_L) (dm : Nat), dm < 14 ∧ mw_CT l yL_energy (.codeWith yL_energy cL_energy 4 (some .int) [(0, 9, 12, 13)]) 13 10 60 [.ref 0, .int x1, .ref 59] (mw_Y0, I, L) (.inl (some (.int k0), mw_Y0, J, L')) ∧ mw_CT l yX2_energy (.code yX2_energy cX2_energy 2 (some .int)) dm 0 0 [.ref 40, .int x1] (mw_Y0, J, L') (.inl (some (.int b0), mw_Y0, K, L')) ∧ K 40 19 = k0 ∧ (k0 = 0 → L' 59 0 = b0.toInt64) ∧ Rel K
def st_mix (Rel : mw_I → Prop) : Prop := ∀ (l : Launch) (I : mw_I) (L : mw_L) (x1 x2 : Int32), Rel I → ∃ (k0 b0 : Int32) (J K : mw_I) (L' : mw_L) (dm : Nat), dm < 14 ∧ mw_CT l yL_mix (.codeWith yL_mix cL_mix 5 (some .int) [(0, 10, 13, 13)]) 13 10 60 [.ref 0, .int x1, .int x2, .ref 59] (mw_Y0, I, L) (.inl (some (.int k0), mw_Y0, J, L')) ∧ mw_CT l yX2_mix (.code yX2_mix cX2_mix 3 (some .int)) dm 0 0 [.ref 40, .int x1, .int x2] (mw_Y0, J, L') (.inl (some (.int b0), mw_Y0, K, L')) ∧ K 40 19 = k0 ∧ (k0 = 0 → L' 59 0 = b0.toInt64) ∧ Rel K
def st_bestEnergy (Rel : mw_I → Prop) : Prop := ∀ (l : Launch) (I : mw_I) (L : mw_L) (x1 : Int32), Rel I → ∃ (k0 b0 : Int32) (J K : mw_I) (L' : mw_L) (dm : Nat), dm < 14 ∧ mw_CT l yL_bestEnergy (.codeWith yL_bestEnergy cL_bestEnergy 4 (some .int) [(0, 9, 12, 13)]) 13 10 60 [.ref 0, .int x1, .ref 59] (mw_Y0, I, L) (.inl (some (.int k0), mw_Y0, J, L')) ∧ mw_CT l yX2_bestEnergy (.code yX2_bestEnergy cX2_bestEnergy 2 (some .int)) dm 0 0 [.ref 40, .int x1] (mw_Y0, J, L') (.inl (some (.int b0), mw_Y0, K, L')) ∧ K 40 19 = k0 ∧ (k0 = 0 → L' 59 0 = b0.toInt64) ∧ Rel K
def st_bestEnergyByAll (Rel : mw_I → Prop) : Prop := ∀ (l : Launch) (I : mw_I) (L : mw_L) (x1 : Int32), Rel I → ∃ (k0 b0 : Int32) (J K : mw_I) (L' : mw_L) (dm : Nat), dm < 14 ∧ mw_CT l yL_bestEnergyByAll (.codeWith yL_bestEnergyByAll cL_bestEnergyByAll 4 (some .int) [(0, 9, 12, 13)]) 13 10 60 [.ref 0, .int x1, .ref 59] (mw_Y0, I, L) (.inl (some (.int k0), mw_Y0, J, L')) ∧ mw_CT l yX2_bestEnergyByAll (.code yX2_bestEnergyByAll cX2_bestEnergyByAll 2 (some .int)) dm 0 0 [.ref 40, .int x1] (mw_Y0, J, L') (.inl (some (.int b0), mw_Y0, K, L')) ∧ K 40 19 = k0 ∧ (k0 = 0 → L' 59 0 = b0.toInt64) ∧ Rel K
def st_bestRelease (Rel : mw_I → Prop) : Prop := ∀ (l : Launch) (I : mw_I) (L : mw_L) (x1 : Int32), Rel I → ∃ (k0 b0 : Int32) (J K : mw_I) (L' : mw_L) (dm : Nat), dm < 14 ∧ mw_CT l yL_bestRelease (.codeWith yL_bestRelease cL_bestRelease 4 (some .int) [(0, 9, 12, 13)]) 13 10 60 [.ref 0, .int x1, .ref 59] (mw_Y0, I, L) (.inl (some (.int k0), mw_Y0, J, L')) ∧ mw_CT l yX2_bestRelease (.code yX2_bestRelease cX2_bestRelease 6 (some .int)) dm 0 0 [.ref 40, .int x1] (mw_Y0, J, L') (.inl (some (.int b0), mw_Y0, K, L')) ∧ K 40 19 = k0 ∧ (k0 = 0 → L' 59 0 = b0.toInt64) ∧ Rel K
def st_hour (Rel : mw_I → Prop) : Prop := ∀ (I : mw_I), Rel I → I 0 6 = I 40 10 ∧ Rel (mw_up I 40 19 0)
def st_all (Rel : mw_I → Prop) : Prop := st_setPond Rel ∧ st_setInflow Rel ∧ st_setMinimum Rel ∧ st_order Rel ∧ st_setYield Rel ∧ st_run Rel ∧ st_hour Rel ∧ st_lend Rel ∧ st_account Rel ∧ st_level Rel ∧ st_travelling Rel ∧ st_arriving Rel ∧ st_cameIn Rel ∧ st_gone Rel ∧ st_balance Rel ∧ st_spilled Rel ∧ st_missed Rel ∧ st_flow Rel ∧ st_energy Rel ∧ st_mix Rel ∧ st_bestEnergy Rel ∧ st_bestEnergyByAll Rel ∧ st_bestRelease Rel
theorem cmp5 {N i : Nat} (hN : N ≤ 2560) (hi : i ≤ N) : nI N - 5 < nI i ↔ N < i + 5 := by
  rw [Int32.lt_iff_toInt_lt, Int32.toInt_sub, nI_toInt (by omega), nI_toInt (by omega), show (5 : Int32).toInt = 5 from rfl]
  have h : ((N : Int) - 5).bmod (2 ^ 32) = (N : Int) - 5 := by
    rw [Int.bmod_def]
    omega
  rw [h]
  omega
set_option maxRecDepth 20000 in
theorem lw_loop {X : mw_X} (hX : mw_Ok RL cL_law 14 601024 7293034 X) {N : Nat} {xs : Nat → Int32} (hS : lw_Sc X N xs) (hN : N ≤ 2560) {Rel : mw_I → Prop} (hs : st_all Rel) (hfin : ∀ (i n k : Nat) (I : mw_I) (L : mw_L), n ≤ 601024 → k ≤ 7293034 → mw_G X 1592 [some (.ref 1000000), some (.ref 0), some (.ref 40), some (.ref 59), some (.int (nI i)), none, none] [.int 1] mw_Y0 I L n k) : ∀ (t i n k : Nat) (I : mw_I) (L : mw_L), Rel I → i ≤ N → N + 5 ≤ i + 5 * t → n + 10 * t ≤ 601024 → k + 60 * t ≤ 7293034 → mw_G X 23 [some (.ref 1000000), some (.ref 0), some (.ref 40), some (.ref 59), some (.int (nI i)), none, none] [] mw_Y0 I L n k := by
  obtain ⟨s_setPond, s_setInflow, s_setMinimum, s_order, s_setYield, s_run, s_hour, s_lend, s_account, s_level, s_travelling, s_arriving, s_cameIn, s_gone, s_balance, s_spilled, s_missed, s_flow, s_energy, s_mix, s_bestEnergy, s_bestEnergyByAll, s_bestRelease⟩ := hs
  intro t
  induction t with
  | zero => intro i n k I L _ h1 h2; exact absurd h2 (by omega)
  | succ t ih =>
    intro i n k I L hr hi ht hn hk
    refine mw_iload hX dL_law_23 rfl ?_
    refine mw_aload_n hX dL_law_25 rfl rfl ?_
    refine mw_slen hX hS dL_law_26 (by decide) ?_
    refine mw_ic hX 5 dL_law_27 rfl ?_
    refine mw_isub hX dL_law_28 ?_
    refine mw_icmp_gt hX (tgt := 1591) dL_law_29 (by decide) (fun h29 => ?_) (fun h29 => ?_)
    · refine mw_ic hX 1 dL_law_1591 rfl ?_
      exact hfin _ _ _ _ _ (by omega) (by omega)
    · have h5 : i + 5 ≤ N := Nat.le_of_not_lt (fun q => h29 ((cmp5 hN hi).mpr q))
      have tail : ∀ (K : mw_I) (L' : mw_L), Rel K → mw_G X 1585 [some (.ref 1000000), some (.ref 0), some (.ref 40), some (.ref 59), some (.int (nI i)), none, none] [] mw_Y0 K L' (n + 10) (k + 60) := by
        intro K L' hrK
        refine mw_inc hX (nI (i + 5)) dL_law_1585 rfl (nI_add i 5) ?_
        dsimp only [List.set]
        refine mw_goto hX (tgt := 23) dL_law_1588 (by decide) ?_
        exact ih (i + 5) (n + 10) (k + 60) K L' hrK h5 (by omega) (by omega) (by omega)
      refine mw_aload_n hX dL_law_32 rfl rfl ?_
      refine mw_iload hX dL_law_33 rfl ?_
      refine mw_sload hX hS (j := i) dL_law_35 (by decide) rfl (by omega) (by omega) ?_
      refine mw_bp hX 31 dL_law_36 rfl ?_
      refine mw_iand hX dL_law_38 ?_
      obtain ⟨j, hj, ej⟩ := and31 (xs i)
      rw [ej]
      by_cases hj22 : 22 < j
      · refine mw_tsOut hX (tgt := 1585) dL_law_39 (Or.inr (by rw [nI_toInt (by omega)]; omega)) (by decide) ?_
        exact mw_le (by omega) (by omega) (tail I L hr)
      · rcases (by omega : j = 0 ∨ j = 1 ∨ j = 2 ∨ j = 3 ∨ j = 4 ∨ j = 5 ∨ j = 6 ∨ j = 7 ∨ j = 8 ∨ j = 9 ∨ j = 10 ∨ j = 11 ∨ j = 12 ∨ j = 13 ∨ j = 14 ∨ j = 15 ∨ j = 16 ∨ j = 17 ∨ j = 18 ∨ j = 19 ∨ j = 20 ∨ j = 21 ∨ j = 22) with rfl | rfl | rfl | rfl | rfl | rfl | rfl | rfl | rfl | rfl | rfl | rfl | rfl | rfl | rfl | rfl | rfl | rfl | rfl | rfl | rfl | rfl | rfl
        · refine mw_tsIn hX (tgt := 144) (x := nI 0) dL_law_39 (by decide) (by decide) rfl (by decide) ?_
          obtain ⟨k0, J, K, L', dm, hdm, hw, hm, hq, hr2⟩ := s_setPond (mw_l X) I L (xs (i + 1)) (xs (i + 2)) (xs (i + 3)) (xs (i + 4)) hr
          exact lc_setPond hX hS h5 hN hdm hw hm hq (by omega) (by omega) (tail K L' hr2)
        · refine mw_tsIn hX (tgt := 216) (x := nI 1) dL_law_39 (by decide) (by decide) rfl (by decide) ?_
          obtain ⟨k0, b0, J, K, L', dm, hdm, hw, hm, hq, he, hr2⟩ := s_setInflow (mw_l X) I L (xs (i + 1)) (xs (i + 2)) (xs (i + 3)) hr
          exact lc_setInflow hX hS h5 hN hdm hw hm hq he (by omega) (by omega) (tail K L' hr2)
        · refine mw_tsIn hX (tgt := 296) (x := nI 2) dL_law_39 (by decide) (by decide) rfl (by decide) ?_
          obtain ⟨k0, b0, J, K, L', dm, hdm, hw, hm, hq, he, hr2⟩ := s_setMinimum (mw_l X) I L (xs (i + 1)) (xs (i + 2)) hr
          exact lc_setMinimum hX hS h5 hN hdm hw hm hq he (by omega) (by omega) (tail K L' hr2)
        · refine mw_tsIn hX (tgt := 364) (x := nI 3) dL_law_39 (by decide) (by decide) rfl (by decide) ?_
          obtain ⟨k0, b0, J, K, L', dm, hdm, hw, hm, hq, he, hr2⟩ := s_order (mw_l X) I L (xs (i + 1)) (xs (i + 2)) (xs (i + 3)) hr
          exact lc_order hX hS h5 hN hdm hw hm hq he (by omega) (by omega) (tail K L' hr2)
        · refine mw_tsIn hX (tgt := 444) (x := nI 4) dL_law_39 (by decide) (by decide) rfl (by decide) ?_
          obtain ⟨k0, b0, J, K, L', dm, hdm, hw, hm, hq, he, hr2⟩ := s_setYield (mw_l X) I L (xs (i + 1)) (xs (i + 2)) (xs (i + 3)) (xs (i + 4)) hr
          exact lc_setYield hX hS h5 hN hdm hw hm hq he (by omega) (by omega) (tail K L' hr2)
        · refine mw_tsIn hX (tgt := 536) (x := nI 5) dL_law_39 (by decide) (by decide) rfl (by decide) ?_
          obtain ⟨k0, b0, J, K, L', dm, hdm, hw, hm, hq, he, hr2⟩ := s_run (mw_l X) I L (xs (i + 1)) hr
          exact lc_run hX hS h5 hN hdm hw hm hq he (by omega) (by omega) (tail K L' hr2)
        · refine mw_tsIn hX (tgt := 592) (x := nI 6) dL_law_39 (by decide) (by decide) rfl (by decide) ?_
          obtain ⟨a1, a2⟩ := s_hour I hr
          exact lc_hour hX a1 (by omega) (by omega) (tail _ L a2)
        · refine mw_tsIn hX (tgt := 605) (x := nI 7) dL_law_39 (by decide) (by decide) rfl (by decide) ?_
          obtain ⟨k0, b0, J, K, L', dm, hdm, hw, hm, hq, he, hr2⟩ := s_lend (mw_l X) I L (xs (i + 1)) (xs (i + 2)) (xs (i + 3)) hr
          exact lc_lend hX hS h5 hN hdm hw hm hq he (by omega) (by omega) (tail K L' hr2)
        · refine mw_tsIn hX (tgt := 685) (x := nI 8) dL_law_39 (by decide) (by decide) rfl (by decide) ?_
          obtain ⟨k0, b0, J, K, L', dm, hdm, hw, hm, hq, he, hr2⟩ := s_account (mw_l X) I L (xs (i + 1)) (xs (i + 2)) hr
          exact lc_account hX hS h5 hN hdm hw hm hq he (by omega) (by omega) (tail K L' hr2)
        · refine mw_tsIn hX (tgt := 753) (x := nI 9) dL_law_39 (by decide) (by decide) rfl (by decide) ?_
          obtain ⟨k0, b0, J, K, L', dm, hdm, hw, hm, hq, he, hr2⟩ := s_level (mw_l X) I L (xs (i + 1)) hr
          exact lc_level hX hS h5 hN hdm hw hm hq he (by omega) (by omega) (tail K L' hr2)
        · refine mw_tsIn hX (tgt := 809) (x := nI 10) dL_law_39 (by decide) (by decide) rfl (by decide) ?_
          obtain ⟨k0, b0, J, K, L', dm, hdm, hw, hm, hq, he, hr2⟩ := s_travelling (mw_l X) I L (xs (i + 1)) (xs (i + 2)) hr
          exact lc_travelling hX hS h5 hN hdm hw hm hq he (by omega) (by omega) (tail K L' hr2)
        · refine mw_tsIn hX (tgt := 877) (x := nI 11) dL_law_39 (by decide) (by decide) rfl (by decide) ?_
          obtain ⟨k0, b0, J, K, L', dm, hdm, hw, hm, hq, he, hr2⟩ := s_arriving (mw_l X) I L (xs (i + 1)) (xs (i + 2)) (xs (i + 3)) hr
          exact lc_arriving hX hS h5 hN hdm hw hm hq he (by omega) (by omega) (tail K L' hr2)
        · refine mw_tsIn hX (tgt := 957) (x := nI 12) dL_law_39 (by decide) (by decide) rfl (by decide) ?_
          obtain ⟨k0, b0, J, K, L', dm, hdm, hw, hm, hq, he, hr2⟩ := s_cameIn (mw_l X) I L (xs (i + 1)) hr
          exact lc_cameIn hX hS h5 hN hdm hw hm hq he (by omega) (by omega) (tail K L' hr2)
        · refine mw_tsIn hX (tgt := 1013) (x := nI 13) dL_law_39 (by decide) (by decide) rfl (by decide) ?_
          obtain ⟨k0, b0, J, K, L', dm, hdm, hw, hm, hq, he, hr2⟩ := s_gone (mw_l X) I L (xs (i + 1)) hr
          exact lc_gone hX hS h5 hN hdm hw hm hq he (by omega) (by omega) (tail K L' hr2)
        · refine mw_tsIn hX (tgt := 1069) (x := nI 14) dL_law_39 (by decide) (by decide) rfl (by decide) ?_
          obtain ⟨k0, b0, J, K, L', dm, hdm, hw, hm, hq, he, hr2⟩ := s_balance (mw_l X) I L (xs (i + 1)) hr
          exact lc_balance hX hS h5 hN hdm hw hm hq he (by omega) (by omega) (tail K L' hr2)
        · refine mw_tsIn hX (tgt := 1125) (x := nI 15) dL_law_39 (by decide) (by decide) rfl (by decide) ?_
          obtain ⟨k0, b0, J, K, L', dm, hdm, hw, hm, hq, he, hr2⟩ := s_spilled (mw_l X) I L (xs (i + 1)) hr
          exact lc_spilled hX hS h5 hN hdm hw hm hq he (by omega) (by omega) (tail K L' hr2)
        · refine mw_tsIn hX (tgt := 1181) (x := nI 16) dL_law_39 (by decide) (by decide) rfl (by decide) ?_
          obtain ⟨k0, b0, J, K, L', dm, hdm, hw, hm, hq, he, hr2⟩ := s_missed (mw_l X) I L (xs (i + 1)) hr
          exact lc_missed hX hS h5 hN hdm hw hm hq he (by omega) (by omega) (tail K L' hr2)
        · refine mw_tsIn hX (tgt := 1237) (x := nI 17) dL_law_39 (by decide) (by decide) rfl (by decide) ?_
          obtain ⟨k0, b0, J, K, L', dm, hdm, hw, hm, hq, he, hr2⟩ := s_flow (mw_l X) I L (xs (i + 1)) hr
          exact lc_flow hX hS h5 hN hdm hw hm hq he (by omega) (by omega) (tail K L' hr2)
        · refine mw_tsIn hX (tgt := 1293) (x := nI 18) dL_law_39 (by decide) (by decide) rfl (by decide) ?_
          obtain ⟨k0, b0, J, K, L', dm, hdm, hw, hm, hq, he, hr2⟩ := s_energy (mw_l X) I L (xs (i + 1)) hr
          exact lc_energy hX hS h5 hN hdm hw hm hq he (by omega) (by omega) (tail K L' hr2)
        · refine mw_tsIn hX (tgt := 1349) (x := nI 19) dL_law_39 (by decide) (by decide) rfl (by decide) ?_
          obtain ⟨k0, b0, J, K, L', dm, hdm, hw, hm, hq, he, hr2⟩ := s_mix (mw_l X) I L (xs (i + 1)) (xs (i + 2)) hr
          exact lc_mix hX hS h5 hN hdm hw hm hq he (by omega) (by omega) (tail K L' hr2)
        · refine mw_tsIn hX (tgt := 1417) (x := nI 20) dL_law_39 (by decide) (by decide) rfl (by decide) ?_
          obtain ⟨k0, b0, J, K, L', dm, hdm, hw, hm, hq, he, hr2⟩ := s_bestEnergy (mw_l X) I L (xs (i + 1)) hr
          exact lc_bestEnergy hX hS h5 hN hdm hw hm hq he (by omega) (by omega) (tail K L' hr2)
        · refine mw_tsIn hX (tgt := 1473) (x := nI 21) dL_law_39 (by decide) (by decide) rfl (by decide) ?_
          obtain ⟨k0, b0, J, K, L', dm, hdm, hw, hm, hq, he, hr2⟩ := s_bestEnergyByAll (mw_l X) I L (xs (i + 1)) hr
          exact lc_bestEnergyByAll hX hS h5 hN hdm hw hm hq he (by omega) (by omega) (tail K L' hr2)
        · refine mw_tsIn hX (tgt := 1529) (x := nI 22) dL_law_39 (by decide) (by decide) rfl (by decide) ?_
          obtain ⟨k0, b0, J, K, L', dm, hdm, hw, hm, hq, he, hr2⟩ := s_bestRelease (mw_l X) I L (xs (i + 1)) hr
          exact lc_bestRelease hX hS h5 hN hdm hw hm hq he (by omega) (by omega) (tail K L' hr2)
/-- what the tables give of the start -/
theorem lw_kinds {s : State} {args : Array Value} (hts : ∀ w ∈ lw_tbl, w.before args s = true) : ∃ (D : va_G) (cA : Nat → ClassId), va_K D mw_cl (mw_ty cA) s := by
  have tb : ∀ (i : Nat) (w : Cond), tables_1[i]? = some w → w.before args s = true := fun i w h => hts w (List.mem_append_right _ (List.mem_of_getElem? h))
  obtain ⟨c0, i0, h0⟩ := u_known (C := RX0) (T := TX0) (N := 16) (n := 16) hts (mw_u0) (tb 21 _ (by decide +kernel))
  obtain ⟨c1, i1, h1⟩ := u_known (C := RX1) (T := TX1) (N := 7) (n := 7) hts (mw_u1) (tb 12 _ (by decide +kernel))
  obtain ⟨c2, i2, h2⟩ := u_known (C := RX2) (T := TX2) (N := 20) (n := 20) hts (mw_u2) (tb 475 _ (by decide +kernel))
  obtain ⟨a0, k0, p0, e1, e2, e3⟩ := Cond.arrayClass_spec (type := .int) (tb 99 (.arrayClass .int) (by decide +kernel))
  obtain ⟨a1, k1, p1, f1, f2, f3⟩ := Cond.arrayClass_spec (type := .long) (tb 690 (.arrayClass .long) (by decide +kernel))
  obtain ⟨p2, a2, k2, g0, -, g1, g2, g3⟩ := Cond.arrayOver_spec (n := RX0) (tb 20 (.arrayOver (.object RX0)) (by decide +kernel))
  obtain ⟨p3, a3, k3, j0, j1, j2, j3⟩ := Cond.arrayOver_specA (t := .int) (tb 27 (.arrayOver (.array .int)) (by decide +kernel))
  refine ⟨(fun c => if c = 0 then c0 else if c = 1 then c1 else c2, fun c => if c = 0 then i0 else if c = 1 then i1 else i2), (fun j => if j = 0 then a0 else if j = 1 then a1 else if j = 2 then a2 else a3), ?_, ?_⟩
  · intro c q hc
    have hl : c < 3 := (List.getElem?_eq_some_iff.mp hc).1
    rcases (by omega : c = 0 ∨ c = 1 ∨ c = 2) with rfl | rfl | rfl
    · cases hc; exact h0
    · cases hc; exact h1
    · cases hc; exact h2
  · intro c q hc
    have hl : c < 4 := (List.getElem?_eq_some_iff.mp hc).1
    rcases (by omega : c = 0 ∨ c = 1 ∨ c = 2 ∨ c = 3) with rfl | rfl | rfl | rfl
    · cases hc; exact ⟨fun n z => ⟨fun k h => (by cases h), k0, e2, p0, e3⟩, e1⟩
    · cases hc; exact ⟨fun n z => ⟨fun k h => (by cases h), k1, f2, p1, f3⟩, f1⟩
    · cases hc; exact ⟨fun n z => ⟨fun k h => (by cases h), k2, g1, p2, g2⟩, k2, p2, g1, g2, g0, g3⟩
    · cases hc; exact ⟨fun n z => ⟨fun k h => (by cases h), k3, j1, p3, j2⟩, j3⟩
