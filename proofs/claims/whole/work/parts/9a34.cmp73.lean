/-! ANSWERS DEPEND ON THE CELLS FROM i ON ALONE -/
def clX (i : Nat) (X : Nat → Int → Int) : Nat → Int → Int := fun z s => if z < i then 0 else X z s
theorem clX_at {i : Nat} {X : Nat → Int → Int} (k : Nat) : clX i X (i + k) = X (i + k) := by
  funext s
  exact if_neg (by omega)
theorem clX_i {i : Nat} {X : Nat → Int → Int} : clX i X i = X i := by
  funext s
  exact if_neg (by omega)
theorem clX_o {i z : Nat} {X : Nat → Int → Int} (h : i ≤ z) : clX i X z = X z := by
  funext s
  exact if_neg (by omega)
theorem clX_g {i : Nat} {X X1 : Nat → Int → Int} (h : ∀ z, i ≤ z → X1 z = X z) : clX i X1 = clX i X := by
  funext z s
  unfold clX
  split
  · rfl
  · rw [h z (by omega)]
theorem clX_zU {i : Nat} {X : Nat → Int → Int} {a v : Int} : zU (clX i X) i a v = clX i (zU X i a v) := by
  funext z s
  by_cases h : z < i
  · rw [zU_o (by omega)]
    show (if z < i then 0 else X z s) = (if z < i then 0 else zU X i a v z s)
    rw [if_pos h, if_pos h]
  · rw [clX_o (X := zU X i a v) (by omega)]
    unfold zU
    split
    · rfl
    · rw [clX_o (by omega)]
theorem rFault_cl {X : Nat → Int → Int} {i : Nat} : rFault (clX i X) i = rFault X i := by
  funext w
  unfold rFault
  simp only [clX_at, clX_i, clX_zU]
theorem mIs_cl {X : Nat → Int → Int} {i : Nat} : mIs i (clX i X) = mIs i X := by
  funext s k
  unfold mIs
  simp only [clX_at, clX_i, clX_zU, rFault_cl]
theorem rNet_cl {X : Nat → Int → Int} {i : Nat} : rNet (clX i X) i = rNet X i := by
  funext n w
  unfold rNet
  simp only [clX_at, clX_i, clX_zU, rFault_cl, mIs_cl]
theorem qN_cl {X : Nat → Int → Int} {i : Nat} : qN (clX i X) i = qN X i := by
  funext c
  unfold qN
  simp only [clX_at, clX_i, clX_zU, rFault_cl, mIs_cl, rNet_cl]
theorem mC_cl {X : Nat → Int → Int} {i : Nat} : mC (clX i X) i = mC X i := by
  funext k w
  unfold mC
  simp only [clX_at, clX_i, clX_zU, rFault_cl, mIs_cl, rNet_cl, qN]
theorem mTim_cl {X : Nat → Int → Int} {i : Nat} : mTim (clX i X) i = mTim X i := by
  funext k
  unfold mTim
  simp only [clX_at, clX_i, clX_zU, rFault_cl, mIs_cl, rNet_cl, qN, mC_cl]
theorem bkOf_cl {X : Nat → Int → Int} {i : Nat} : bkOf (clX i X) i = bkOf X i := by
  funext k w
  unfold bkOf
  simp only [clX_at, clX_i, clX_zU, rFault_cl, mIs_cl, rNet_cl, qN, mC_cl, mTim_cl]
theorem hZ_cl {X : Nat → Int → Int} {i : Nat} (n c f : Int) : hZ (clX i X) i n c f = clX i (hZ X i n c f) := by
  funext a s
  by_cases h : a < i
  · show hZ (clX i X) i n c f a s = if a < i then 0 else hZ X i n c f a s
    unfold hZ
    rw [if_pos h, if_neg (by omega)]
    exact if_pos h
  · rw [clX_o (X := hZ X i n c f) (by omega)]
    unfold hZ
    simp only [clX_at]
    rw [clX_o (by omega)]
theorem rBlock_cl {X : Nat → Int → Int} {i : Nat} : rBlock (clX i X) i = rBlock X i := by
  funext c k w
  unfold rBlock
  simp only [clX_at, clX_i, clX_zU, rFault_cl, mIs_cl, rNet_cl, qN, mC_cl, mTim_cl, bkOf_cl, hZ_cl]
theorem rDeed_cl {X : Nat → Int → Int} {i : Nat} : rDeed (clX i X) i = rDeed X i := by
  funext f k w
  unfold rDeed
  simp only [clX_at, clX_i, clX_zU, rFault_cl, mIs_cl, rNet_cl, qN, mC_cl, mTim_cl, bkOf_cl, hZ_cl, rBlock_cl]
theorem rP_cl {X : Nat → Int → Int} {i : Nat} : rP (clX i X) i = rP X i := by
  funext k
  unfold rP
  simp only [clX_at, clX_i, clX_zU, rFault_cl, mIs_cl, rNet_cl, qN, mC_cl, mTim_cl, bkOf_cl, hZ_cl, rBlock_cl, rDeed_cl]
theorem rT_cl {X : Nat → Int → Int} {i : Nat} : rT (clX i X) i = rT X i := by
  funext k
  unfold rT
  simp only [clX_at, clX_i, clX_zU, rFault_cl, mIs_cl, rNet_cl, qN, mC_cl, mTim_cl, bkOf_cl, hZ_cl, rBlock_cl, rDeed_cl, rP_cl]
theorem mG_cl {X : Nat → Int → Int} {i : Nat} : mG (clX i X) i = mG X i := by
  funext t
  unfold mG
  simp only [clX_at, clX_i, clX_zU, rFault_cl, mIs_cl, rNet_cl, qN, mC_cl, mTim_cl, bkOf_cl, hZ_cl, rBlock_cl, rDeed_cl, rP_cl, rT_cl]
theorem rW_cl {X : Nat → Int → Int} {i : Nat} : rW (clX i X) i = rW X i := by
  unfold rW
  simp only [clX_at, clX_i, clX_zU, rFault_cl, mIs_cl, rNet_cl, qN, mC_cl, mTim_cl, bkOf_cl, hZ_cl, rBlock_cl, rDeed_cl, rP_cl, rT_cl, mG_cl]
theorem rG_cl {X : Nat → Int → Int} {i : Nat} : rG (clX i X) i = rG X i := by
  unfold rG
  simp only [clX_at, clX_i, clX_zU, rFault_cl, mIs_cl, rNet_cl, qN, mC_cl, mTim_cl, bkOf_cl, hZ_cl, rBlock_cl, rDeed_cl, rP_cl, rT_cl, mG_cl, rW]
theorem rF_cl {X : Nat → Int → Int} {i : Nat} : rF (clX i X) i = rF X i := by
  funext k j
  unfold rF
  simp only [clX_at, clX_i, clX_zU, rFault_cl, mIs_cl, rNet_cl, qN, mC_cl, mTim_cl, bkOf_cl, hZ_cl, rBlock_cl, rDeed_cl, rP_cl, rT_cl, mG_cl, rW, rG]
theorem rO_cl {X : Nat → Int → Int} {i : Nat} : rO (clX i X) i = rO X i := by
  funext k j
  unfold rO
  simp only [clX_at, clX_i, clX_zU, rFault_cl, mIs_cl, rNet_cl, qN, mC_cl, mTim_cl, bkOf_cl, hZ_cl, rBlock_cl, rDeed_cl, rP_cl, rT_cl, mG_cl, rW, rG, rF_cl]
theorem rM_cl {X : Nat → Int → Int} {i : Nat} : rM (clX i X) i = rM X i := by
  funext k j
  unfold rM
  simp only [clX_at, clX_i, clX_zU, rFault_cl, mIs_cl, rNet_cl, qN, mC_cl, mTim_cl, bkOf_cl, hZ_cl, rBlock_cl, rDeed_cl, rP_cl, rT_cl, mG_cl, rW, rG, rF_cl, rO_cl]
theorem rS_cl {X : Nat → Int → Int} {i : Nat} : rS (clX i X) i = rS X i := by
  unfold rS
  simp only [clX_at, clX_i, clX_zU, rFault_cl, mIs_cl, rNet_cl, qN, mC_cl, mTim_cl, bkOf_cl, hZ_cl, rBlock_cl, rDeed_cl, rP_cl, rT_cl, mG_cl, rW, rG, rF_cl, rO_cl, rM_cl]
theorem sdf_cl {X : Nat → Int → Int} {i : Nat} : sdf (clX i X) i = sdf X i := by
  unfold sdf
  simp only [clX_at, clX_i, clX_zU, rFault_cl, mIs_cl, rNet_cl, qN, mC_cl, mTim_cl, bkOf_cl, hZ_cl, rBlock_cl, rDeed_cl, rP_cl, rT_cl, mG_cl, rW, rG, rF_cl, rO_cl, rM_cl, rS]
theorem rCx_cl {X : Nat → Int → Int} {i : Nat} : rCx (clX i X) i = rCx X i := by
  unfold rCx
  simp only [clX_at, clX_i, clX_zU, rFault_cl, mIs_cl, rNet_cl, qN, mC_cl, mTim_cl, bkOf_cl, hZ_cl, rBlock_cl, rDeed_cl, rP_cl, rT_cl, mG_cl, rW, rG, rF_cl, rO_cl, rM_cl, rS, sdf_cl]
theorem mDd_cl {X : Nat → Int → Int} {i : Nat} : mDd (clX i X) i = mDd X i := by
  funext k w
  unfold mDd
  simp only [clX_at, clX_i, clX_zU, rFault_cl, mIs_cl, rNet_cl, qN, mC_cl, mTim_cl, bkOf_cl, hZ_cl, rBlock_cl, rDeed_cl, rP_cl, rT_cl, mG_cl, rW, rG, rF_cl, rO_cl, rM_cl, rS, sdf_cl, rCx_cl]
theorem fW_cl {X : Nat → Int → Int} {i : Nat} : fW (clX i X) i = fW X i := by
  funext k
  unfold fW
  simp only [clX_at, clX_i, clX_zU, rFault_cl, mIs_cl, rNet_cl, qN, mC_cl, mTim_cl, bkOf_cl, hZ_cl, rBlock_cl, rDeed_cl, rP_cl, rT_cl, mG_cl, rW, rG, rF_cl, rO_cl, rM_cl, rS, sdf_cl, rCx_cl, mDd_cl]
theorem fV_cl {X : Nat → Int → Int} {i : Nat} : fV (clX i X) i = fV X i := by
  funext k
  unfold fV
  simp only [clX_at, clX_i, clX_zU, rFault_cl, mIs_cl, rNet_cl, qN, mC_cl, mTim_cl, bkOf_cl, hZ_cl, rBlock_cl, rDeed_cl, rP_cl, rT_cl, mG_cl, rW, rG, rF_cl, rO_cl, rM_cl, rS, sdf_cl, rCx_cl, mDd_cl, fW_cl]
theorem rPl_cl {X : Nat → Int → Int} {i : Nat} : rPl (clX i X) i = rPl X i := by
  funext k
  unfold rPl
  simp only [clX_at, clX_i, clX_zU, rFault_cl, mIs_cl, rNet_cl, qN, mC_cl, mTim_cl, bkOf_cl, hZ_cl, rBlock_cl, rDeed_cl, rP_cl, rT_cl, mG_cl, rW, rG, rF_cl, rO_cl, rM_cl, rS, sdf_cl, rCx_cl, mDd_cl, fW_cl, fV_cl]
theorem rStop_cl {X : Nat → Int → Int} {i : Nat} : rStop (clX i X) i = rStop X i := by
  funext n c f
  unfold rStop
  simp only [clX_at, clX_i, clX_zU, rFault_cl, mIs_cl, rNet_cl, qN, mC_cl, mTim_cl, bkOf_cl, hZ_cl, rBlock_cl, rDeed_cl, rP_cl, rT_cl, mG_cl, rW, rG, rF_cl, rO_cl, rM_cl, rS, sdf_cl, rCx_cl, mDd_cl, fW_cl, fV_cl, rPl_cl]
theorem rLd_cl {X : Nat → Int → Int} {i : Nat} : rLd (clX i X) i = rLd X i := by
  funext k a
  unfold rLd
  simp only [clX_at, clX_i, clX_zU, rFault_cl, mIs_cl, rNet_cl, qN, mC_cl, mTim_cl, bkOf_cl, hZ_cl, rBlock_cl, rDeed_cl, rP_cl, rT_cl, mG_cl, rW, rG, rF_cl, rO_cl, rM_cl, rS, sdf_cl, rCx_cl, mDd_cl, fW_cl, fV_cl, rPl_cl, rStop_cl]
theorem rState_cl {X : Nat → Int → Int} {i : Nat} : rState (clX i X) i = rState X i := by
  funext n c f k w
  unfold rState
  simp only [clX_at, clX_i, clX_zU, rFault_cl, mIs_cl, rNet_cl, qN, mC_cl, mTim_cl, bkOf_cl, hZ_cl, rBlock_cl, rDeed_cl, rP_cl, rT_cl, mG_cl, rW, rG, rF_cl, rO_cl, rM_cl, rS, sdf_cl, rCx_cl, mDd_cl, fW_cl, fV_cl, rPl_cl, rStop_cl, rLd_cl]
theorem rOk_cl {X : Nat → Int → Int} {i : Nat} : rOk (clX i X) i = rOk X i := by
  funext n c
  unfold rOk
  simp only [clX_at, clX_i, clX_zU, rFault_cl, mIs_cl, rNet_cl, qN, mC_cl, mTim_cl, bkOf_cl, hZ_cl, rBlock_cl, rDeed_cl, rP_cl, rT_cl, mG_cl, rW, rG, rF_cl, rO_cl, rM_cl, rS, sdf_cl, rCx_cl, mDd_cl, fW_cl, fV_cl, rPl_cl, rStop_cl, rLd_cl, rState_cl]
theorem wkOf_cl {X : Nat → Int → Int} {i : Nat} : wkOf (clX i X) i = wkOf X i := by
  funext k w
  unfold wkOf
  simp only [clX_at, clX_i, clX_zU, rFault_cl, mIs_cl, rNet_cl, qN, mC_cl, mTim_cl, bkOf_cl, hZ_cl, rBlock_cl, rDeed_cl, rP_cl, rT_cl, mG_cl, rW, rG, rF_cl, rO_cl, rM_cl, rS, sdf_cl, rCx_cl, mDd_cl, fW_cl, fV_cl, rPl_cl, rStop_cl, rLd_cl, rState_cl, rOk]
theorem rWork_cl {X : Nat → Int → Int} {i : Nat} : rWork (clX i X) i = rWork X i := by
  funext n c k w
  unfold rWork
  simp only [clX_at, clX_i, clX_zU, rFault_cl, mIs_cl, rNet_cl, qN, mC_cl, mTim_cl, bkOf_cl, hZ_cl, rBlock_cl, rDeed_cl, rP_cl, rT_cl, mG_cl, rW, rG, rF_cl, rO_cl, rM_cl, rS, sdf_cl, rCx_cl, mDd_cl, fW_cl, fV_cl, rPl_cl, rStop_cl, rLd_cl, rState_cl, rOk, wkOf_cl]
theorem rTip_cl {X : Nat → Int → Int} {i : Nat} : rTip (clX i X) i = rTip X i := by
  funext w
  unfold rTip
  simp only [clX_at, clX_i, clX_zU, rFault_cl, mIs_cl, rNet_cl, qN, mC_cl, mTim_cl, bkOf_cl, hZ_cl, rBlock_cl, rDeed_cl, rP_cl, rT_cl, mG_cl, rW, rG, rF_cl, rO_cl, rM_cl, rS, sdf_cl, rCx_cl, mDd_cl, fW_cl, fV_cl, rPl_cl, rStop_cl, rLd_cl, rState_cl, rOk, wkOf_cl, rWork_cl]
theorem mWo_cl {X : Nat → Int → Int} {i : Nat} : mWo (clX i X) i = mWo X i := by
  funext a
  unfold mWo
  simp only [clX_at, clX_i, clX_zU, rFault_cl, mIs_cl, rNet_cl, qN, mC_cl, mTim_cl, bkOf_cl, hZ_cl, rBlock_cl, rDeed_cl, rP_cl, rT_cl, mG_cl, rW, rG, rF_cl, rO_cl, rM_cl, rS, sdf_cl, rCx_cl, mDd_cl, fW_cl, fV_cl, rPl_cl, rStop_cl, rLd_cl, rState_cl, rOk, wkOf_cl, rWork_cl, rTip_cl]
theorem tBs_cl {X : Nat → Int → Int} {i : Nat} : tBs (clX i X) i = tBs X i := by
  unfold tBs
  simp only [clX_at, clX_i, clX_zU, rFault_cl, mIs_cl, rNet_cl, qN, mC_cl, mTim_cl, bkOf_cl, hZ_cl, rBlock_cl, rDeed_cl, rP_cl, rT_cl, mG_cl, rW, rG, rF_cl, rO_cl, rM_cl, rS, sdf_cl, rCx_cl, mDd_cl, fW_cl, fV_cl, rPl_cl, rStop_cl, rLd_cl, rState_cl, rOk, wkOf_cl, rWork_cl, rTip_cl, mWo]
theorem tSb_cl {X : Nat → Int → Int} {i : Nat} : tSb (clX i X) i = tSb X i := by
  unfold tSb
  simp only [clX_at, clX_i, clX_zU, rFault_cl, mIs_cl, rNet_cl, qN, mC_cl, mTim_cl, bkOf_cl, hZ_cl, rBlock_cl, rDeed_cl, rP_cl, rT_cl, mG_cl, rW, rG, rF_cl, rO_cl, rM_cl, rS, sdf_cl, rCx_cl, mDd_cl, fW_cl, fV_cl, rPl_cl, rStop_cl, rLd_cl, rState_cl, rOk, wkOf_cl, rWork_cl, rTip_cl, mWo, tBs_cl]
theorem tHv_cl {X : Nat → Int → Int} {i : Nat} : tHv (clX i X) i = tHv X i := by
  funext k
  unfold tHv
  simp only [clX_at, clX_i, clX_zU, rFault_cl, mIs_cl, rNet_cl, qN, mC_cl, mTim_cl, bkOf_cl, hZ_cl, rBlock_cl, rDeed_cl, rP_cl, rT_cl, mG_cl, rW, rG, rF_cl, rO_cl, rM_cl, rS, sdf_cl, rCx_cl, mDd_cl, fW_cl, fV_cl, rPl_cl, rStop_cl, rLd_cl, rState_cl, rOk, wkOf_cl, rWork_cl, rTip_cl, mWo, tBs_cl, tSb_cl]
theorem tRc_cl {X : Nat → Int → Int} {i : Nat} : tRc (clX i X) i = tRc X i := by
  unfold tRc
  simp only [clX_at, clX_i, clX_zU, rFault_cl, mIs_cl, rNet_cl, qN, mC_cl, mTim_cl, bkOf_cl, hZ_cl, rBlock_cl, rDeed_cl, rP_cl, rT_cl, mG_cl, rW, rG, rF_cl, rO_cl, rM_cl, rS, sdf_cl, rCx_cl, mDd_cl, fW_cl, fV_cl, rPl_cl, rStop_cl, rLd_cl, rState_cl, rOk, wkOf_cl, rWork_cl, rTip_cl, mWo, tBs_cl, tSb_cl, tHv_cl]
theorem fTp_cl {X : Nat → Int → Int} {i : Nat} : fTp (clX i X) i = fTp X i := by
  funext k
  unfold fTp
  simp only [clX_at, clX_i, clX_zU, rFault_cl, mIs_cl, rNet_cl, qN, mC_cl, mTim_cl, bkOf_cl, hZ_cl, rBlock_cl, rDeed_cl, rP_cl, rT_cl, mG_cl, rW, rG, rF_cl, rO_cl, rM_cl, rS, sdf_cl, rCx_cl, mDd_cl, fW_cl, fV_cl, rPl_cl, rStop_cl, rLd_cl, rState_cl, rOk, wkOf_cl, rWork_cl, rTip_cl, mWo, tBs_cl, tSb_cl, tHv_cl, tRc_cl]
theorem rCb_cl {X : Nat → Int → Int} {i : Nat} : rCb (clX i X) i = rCb X i := by
  unfold rCb
  simp only [clX_at, clX_i, clX_zU, rFault_cl, mIs_cl, rNet_cl, qN, mC_cl, mTim_cl, bkOf_cl, hZ_cl, rBlock_cl, rDeed_cl, rP_cl, rT_cl, mG_cl, rW, rG, rF_cl, rO_cl, rM_cl, rS, sdf_cl, rCx_cl, mDd_cl, fW_cl, fV_cl, rPl_cl, rStop_cl, rLd_cl, rState_cl, rOk, wkOf_cl, rWork_cl, rTip_cl, mWo, tBs_cl, tSb_cl, tHv_cl, tRc_cl, fTp_cl]
theorem tpW_cl {X : Nat → Int → Int} {i : Nat} : tpW (clX i X) i = tpW X i := by
  unfold tpW
  simp only [clX_at, clX_i, clX_zU, rFault_cl, mIs_cl, rNet_cl, qN, mC_cl, mTim_cl, bkOf_cl, hZ_cl, rBlock_cl, rDeed_cl, rP_cl, rT_cl, mG_cl, rW, rG, rF_cl, rO_cl, rM_cl, rS, sdf_cl, rCx_cl, mDd_cl, fW_cl, fV_cl, rPl_cl, rStop_cl, rLd_cl, rState_cl, rOk, wkOf_cl, rWork_cl, rTip_cl, mWo, tBs_cl, tSb_cl, tHv_cl, tRc_cl, fTp_cl, rCb_cl]
theorem tpOf_cl {X : Nat → Int → Int} {i : Nat} : tpOf (clX i X) i = tpOf X i := by
  funext w
  unfold tpOf
  simp only [clX_at, clX_i, clX_zU, rFault_cl, mIs_cl, rNet_cl, qN, mC_cl, mTim_cl, bkOf_cl, hZ_cl, rBlock_cl, rDeed_cl, rP_cl, rT_cl, mG_cl, rW, rG, rF_cl, rO_cl, rM_cl, rS, sdf_cl, rCx_cl, mDd_cl, fW_cl, fV_cl, rPl_cl, rStop_cl, rLd_cl, rState_cl, rOk, wkOf_cl, rWork_cl, rTip_cl, mWo, tBs_cl, tSb_cl, tHv_cl, tRc_cl, fTp_cl, rCb_cl, tpW_cl]
theorem rTipC_cl {X : Nat → Int → Int} {i : Nat} : rTipC (clX i X) i = rTipC X i := by
  funext n c w
  unfold rTipC
  simp only [clX_at, clX_i, clX_zU, rFault_cl, mIs_cl, rNet_cl, qN, mC_cl, mTim_cl, bkOf_cl, hZ_cl, rBlock_cl, rDeed_cl, rP_cl, rT_cl, mG_cl, rW, rG, rF_cl, rO_cl, rM_cl, rS, sdf_cl, rCx_cl, mDd_cl, fW_cl, fV_cl, rPl_cl, rStop_cl, rLd_cl, rState_cl, rOk, wkOf_cl, rWork_cl, rTip_cl, mWo, tBs_cl, tSb_cl, tHv_cl, tRc_cl, fTp_cl, rCb_cl, tpW_cl, tpOf_cl]
theorem rPool_cl {X : Nat → Int → Int} {i : Nat} : rPool (clX i X) i = rPool X i := by
  funext f k w
  unfold rPool
  simp only [clX_at, clX_i, clX_zU, rFault_cl, mIs_cl, rNet_cl, qN, mC_cl, mTim_cl, bkOf_cl, hZ_cl, rBlock_cl, rDeed_cl, rP_cl, rT_cl, mG_cl, rW, rG, rF_cl, rO_cl, rM_cl, rS, sdf_cl, rCx_cl, mDd_cl, fW_cl, fV_cl, rPl_cl, rStop_cl, rLd_cl, rState_cl, rOk, wkOf_cl, rWork_cl, rTip_cl, mWo, tBs_cl, tSb_cl, tHv_cl, tRc_cl, fTp_cl, rCb_cl, tpW_cl, tpOf_cl, rTipC_cl]
theorem pqF_cl {X : Nat → Int → Int} {i : Nat} : pqF (clX i X) i = pqF X i := by
  funext p w
  unfold pqF
  simp only [clX_at, clX_i, clX_zU, rFault_cl, mIs_cl, rNet_cl, qN, mC_cl, mTim_cl, bkOf_cl, hZ_cl, rBlock_cl, rDeed_cl, rP_cl, rT_cl, mG_cl, rW, rG, rF_cl, rO_cl, rM_cl, rS, sdf_cl, rCx_cl, mDd_cl, fW_cl, fV_cl, rPl_cl, rStop_cl, rLd_cl, rState_cl, rOk, wkOf_cl, rWork_cl, rTip_cl, mWo, tBs_cl, tSb_cl, tHv_cl, tRc_cl, fTp_cl, rCb_cl, tpW_cl, tpOf_cl, rTipC_cl, rPool_cl]
theorem rFlv_cl {X : Nat → Int → Int} {i : Nat} : rFlv (clX i X) i = rFlv X i := by
  funext n c b p
  unfold rFlv
  simp only [clX_at, clX_i, clX_zU, rFault_cl, mIs_cl, rNet_cl, qN, mC_cl, mTim_cl, bkOf_cl, hZ_cl, rBlock_cl, rDeed_cl, rP_cl, rT_cl, mG_cl, rW, rG, rF_cl, rO_cl, rM_cl, rS, sdf_cl, rCx_cl, mDd_cl, fW_cl, fV_cl, rPl_cl, rStop_cl, rLd_cl, rState_cl, rOk, wkOf_cl, rWork_cl, rTip_cl, mWo, tBs_cl, tSb_cl, tHv_cl, tRc_cl, fTp_cl, rCb_cl, tpW_cl, tpOf_cl, rTipC_cl, rPool_cl, pqF_cl]
theorem rFl_cl {X : Nat → Int → Int} {i : Nat} : rFl (clX i X) i = rFl X i := by
  funext n c b p
  unfold rFl
  simp only [clX_at, clX_i, clX_zU, rFault_cl, mIs_cl, rNet_cl, qN, mC_cl, mTim_cl, bkOf_cl, hZ_cl, rBlock_cl, rDeed_cl, rP_cl, rT_cl, mG_cl, rW, rG, rF_cl, rO_cl, rM_cl, rS, sdf_cl, rCx_cl, mDd_cl, fW_cl, fV_cl, rPl_cl, rStop_cl, rLd_cl, rState_cl, rOk, wkOf_cl, rWork_cl, rTip_cl, mWo, tBs_cl, tSb_cl, tHv_cl, tRc_cl, fTp_cl, rCb_cl, tpW_cl, tpOf_cl, rTipC_cl, rPool_cl, pqF_cl, rFlv_cl]
theorem rFill_cl {X : Nat → Int → Int} {i : Nat} : rFill (clX i X) i = rFill X i := by
  funext n c b p k
  unfold rFill
  simp only [clX_at, clX_i, clX_zU, rFault_cl, mIs_cl, rNet_cl, qN, mC_cl, mTim_cl, bkOf_cl, hZ_cl, rBlock_cl, rDeed_cl, rP_cl, rT_cl, mG_cl, rW, rG, rF_cl, rO_cl, rM_cl, rS, sdf_cl, rCx_cl, mDd_cl, fW_cl, fV_cl, rPl_cl, rStop_cl, rLd_cl, rState_cl, rOk, wkOf_cl, rWork_cl, rTip_cl, mWo, tBs_cl, tSb_cl, tHv_cl, tRc_cl, fTp_cl, rCb_cl, tpW_cl, tpOf_cl, rTipC_cl, rPool_cl, pqF_cl, rFlv_cl, rFl_cl]
theorem rpZ_cl {X : Nat → Int → Int} {i : Nat} : rpZ (clX i X) i = rpZ X i := by
  funext set L
  unfold rpZ
  simp only [clX_at, clX_i, clX_zU, rFault_cl, mIs_cl, rNet_cl, qN, mC_cl, mTim_cl, bkOf_cl, hZ_cl, rBlock_cl, rDeed_cl, rP_cl, rT_cl, mG_cl, rW, rG, rF_cl, rO_cl, rM_cl, rS, sdf_cl, rCx_cl, mDd_cl, fW_cl, fV_cl, rPl_cl, rStop_cl, rLd_cl, rState_cl, rOk, wkOf_cl, rWork_cl, rTip_cl, mWo, tBs_cl, tSb_cl, tHv_cl, tRc_cl, fTp_cl, rCb_cl, tpW_cl, tpOf_cl, rTipC_cl, rPool_cl, pqF_cl, rFlv_cl, rFl_cl, rFill_cl]
theorem rpS_cl {X : Nat → Int → Int} {i : Nat} : rpS (clX i X) i = rpS X i := by
  funext a b
  unfold rpS
  simp only [clX_at, clX_i, clX_zU, rFault_cl, mIs_cl, rNet_cl, qN, mC_cl, mTim_cl, bkOf_cl, hZ_cl, rBlock_cl, rDeed_cl, rP_cl, rT_cl, mG_cl, rW, rG, rF_cl, rO_cl, rM_cl, rS, sdf_cl, rCx_cl, mDd_cl, fW_cl, fV_cl, rPl_cl, rStop_cl, rLd_cl, rState_cl, rOk, wkOf_cl, rWork_cl, rTip_cl, mWo, tBs_cl, tSb_cl, tHv_cl, tRc_cl, fTp_cl, rCb_cl, tpW_cl, tpOf_cl, rTipC_cl, rPool_cl, pqF_cl, rFlv_cl, rFl_cl, rFill_cl, rpZ]
theorem rReplay_cl {X : Nat → Int → Int} {i : Nat} : rReplay (clX i X) i = rReplay X i := by
  funext n c a b u
  unfold rReplay
  simp only [clX_at, clX_i, clX_zU, rFault_cl, mIs_cl, rNet_cl, qN, mC_cl, mTim_cl, bkOf_cl, hZ_cl, rBlock_cl, rDeed_cl, rP_cl, rT_cl, mG_cl, rW, rG, rF_cl, rO_cl, rM_cl, rS, sdf_cl, rCx_cl, mDd_cl, fW_cl, fV_cl, rPl_cl, rStop_cl, rLd_cl, rState_cl, rOk, wkOf_cl, rWork_cl, rTip_cl, mWo, tBs_cl, tSb_cl, tHv_cl, tRc_cl, fTp_cl, rCb_cl, tpW_cl, tpOf_cl, rTipC_cl, rPool_cl, pqF_cl, rFlv_cl, rFl_cl, rFill_cl, rpZ, rpS_cl]
theorem qP_cl {X : Nat → Int → Int} {i : Nat} : qP (clX i X) i = qP X i := by
  funext c
  unfold qP
  simp only [clX_at, clX_i, clX_zU, rFault_cl, mIs_cl, rNet_cl, qN, mC_cl, mTim_cl, bkOf_cl, hZ_cl, rBlock_cl, rDeed_cl, rP_cl, rT_cl, mG_cl, rW, rG, rF_cl, rO_cl, rM_cl, rS, sdf_cl, rCx_cl, mDd_cl, fW_cl, fV_cl, rPl_cl, rStop_cl, rLd_cl, rState_cl, rOk, wkOf_cl, rWork_cl, rTip_cl, mWo, tBs_cl, tSb_cl, tHv_cl, tRc_cl, fTp_cl, rCb_cl, tpW_cl, tpOf_cl, rTipC_cl, rPool_cl, pqF_cl, rFlv_cl, rFl_cl, rFill_cl, rpZ, rpS_cl, rReplay_cl]
theorem rPath_cl {X : Nat → Int → Int} {i : Nat} : rPath (clX i X) i = rPath X i := by
  funext c a b k
  unfold rPath
  simp only [clX_at, clX_i, clX_zU, rFault_cl, mIs_cl, rNet_cl, qN, mC_cl, mTim_cl, bkOf_cl, hZ_cl, rBlock_cl, rDeed_cl, rP_cl, rT_cl, mG_cl, rW, rG, rF_cl, rO_cl, rM_cl, rS, sdf_cl, rCx_cl, mDd_cl, fW_cl, fV_cl, rPl_cl, rStop_cl, rLd_cl, rState_cl, rOk, wkOf_cl, rWork_cl, rTip_cl, mWo, tBs_cl, tSb_cl, tHv_cl, tRc_cl, fTp_cl, rCb_cl, tpW_cl, tpOf_cl, rTipC_cl, rPool_cl, pqF_cl, rFlv_cl, rFl_cl, rFill_cl, rpZ, rpS_cl, rReplay_cl, qP]
theorem fMd_cl {X : Nat → Int → Int} {i : Nat} : fMd (clX i X) i = fMd X i := by
  funext a k
  unfold fMd
  simp only [clX_at, clX_i, clX_zU, rFault_cl, mIs_cl, rNet_cl, qN, mC_cl, mTim_cl, bkOf_cl, hZ_cl, rBlock_cl, rDeed_cl, rP_cl, rT_cl, mG_cl, rW, rG, rF_cl, rO_cl, rM_cl, rS, sdf_cl, rCx_cl, mDd_cl, fW_cl, fV_cl, rPl_cl, rStop_cl, rLd_cl, rState_cl, rOk, wkOf_cl, rWork_cl, rTip_cl, mWo, tBs_cl, tSb_cl, tHv_cl, tRc_cl, fTp_cl, rCb_cl, tpW_cl, tpOf_cl, rTipC_cl, rPool_cl, pqF_cl, rFlv_cl, rFl_cl, rFill_cl, rpZ, rpS_cl, rReplay_cl, qP, rPath_cl]
theorem owOf_cl {X : Nat → Int → Int} {i : Nat} : owOf (clX i X) i = owOf X i := by
  funext h w
  unfold owOf
  simp only [clX_at, clX_i, clX_zU, rFault_cl, mIs_cl, rNet_cl, qN, mC_cl, mTim_cl, bkOf_cl, hZ_cl, rBlock_cl, rDeed_cl, rP_cl, rT_cl, mG_cl, rW, rG, rF_cl, rO_cl, rM_cl, rS, sdf_cl, rCx_cl, mDd_cl, fW_cl, fV_cl, rPl_cl, rStop_cl, rLd_cl, rState_cl, rOk, wkOf_cl, rWork_cl, rTip_cl, mWo, tBs_cl, tSb_cl, tHv_cl, tRc_cl, fTp_cl, rCb_cl, tpW_cl, tpOf_cl, rTipC_cl, rPool_cl, pqF_cl, rFlv_cl, rFl_cl, rFill_cl, rpZ, rpS_cl, rReplay_cl, qP, rPath_cl, fMd_cl]
theorem rOwn_cl {X : Nat → Int → Int} {i : Nat} : rOwn (clX i X) i = rOwn X i := by
  funext n c h w
  unfold rOwn
  simp only [clX_at, clX_i, clX_zU, rFault_cl, mIs_cl, rNet_cl, qN, mC_cl, mTim_cl, bkOf_cl, hZ_cl, rBlock_cl, rDeed_cl, rP_cl, rT_cl, mG_cl, rW, rG, rF_cl, rO_cl, rM_cl, rS, sdf_cl, rCx_cl, mDd_cl, fW_cl, fV_cl, rPl_cl, rStop_cl, rLd_cl, rState_cl, rOk, wkOf_cl, rWork_cl, rTip_cl, mWo, tBs_cl, tSb_cl, tHv_cl, tRc_cl, fTp_cl, rCb_cl, tpW_cl, tpOf_cl, rTipC_cl, rPool_cl, pqF_cl, rFlv_cl, rFl_cl, rFill_cl, rpZ, rpS_cl, rReplay_cl, qP, rPath_cl, fMd_cl, owOf_cl]
theorem rMeet_cl {X : Nat → Int → Int} {i : Nat} : rMeet (clX i X) i = rMeet X i := by
  funext c a b
  unfold rMeet
  simp only [clX_at, clX_i, clX_zU, rFault_cl, mIs_cl, rNet_cl, qN, mC_cl, mTim_cl, bkOf_cl, hZ_cl, rBlock_cl, rDeed_cl, rP_cl, rT_cl, mG_cl, rW, rG, rF_cl, rO_cl, rM_cl, rS, sdf_cl, rCx_cl, mDd_cl, fW_cl, fV_cl, rPl_cl, rStop_cl, rLd_cl, rState_cl, rOk, wkOf_cl, rWork_cl, rTip_cl, mWo, tBs_cl, tSb_cl, tHv_cl, tRc_cl, fTp_cl, rCb_cl, tpW_cl, tpOf_cl, rTipC_cl, rPool_cl, pqF_cl, rFlv_cl, rFl_cl, rFill_cl, rpZ, rpS_cl, rReplay_cl, qP, rPath_cl, fMd_cl, owOf_cl, rOwn_cl]
theorem rFact_cl {X : Nat → Int → Int} {i : Nat} : rFact (clX i X) i = rFact X i := by
  funext f k w
  unfold rFact
  simp only [clX_at, clX_i, clX_zU, rFault_cl, mIs_cl, rNet_cl, qN, mC_cl, mTim_cl, bkOf_cl, hZ_cl, rBlock_cl, rDeed_cl, rP_cl, rT_cl, mG_cl, rW, rG, rF_cl, rO_cl, rM_cl, rS, sdf_cl, rCx_cl, mDd_cl, fW_cl, fV_cl, rPl_cl, rStop_cl, rLd_cl, rState_cl, rOk, wkOf_cl, rWork_cl, rTip_cl, mWo, tBs_cl, tSb_cl, tHv_cl, tRc_cl, fTp_cl, rCb_cl, tpW_cl, tpOf_cl, rTipC_cl, rPool_cl, pqF_cl, rFlv_cl, rFl_cl, rFill_cl, rpZ, rpS_cl, rReplay_cl, qP, rPath_cl, fMd_cl, owOf_cl, rOwn_cl, rMeet_cl]
theorem lgOk_cl {X : Nat → Int → Int} {i : Nat} : lgOk (clX i X) i = lgOk X i := by
  funext n c g l
  unfold lgOk
  simp only [clX_at, clX_i, clX_zU, rFault_cl, mIs_cl, rNet_cl, qN, mC_cl, mTim_cl, bkOf_cl, hZ_cl, rBlock_cl, rDeed_cl, rP_cl, rT_cl, mG_cl, rW, rG, rF_cl, rO_cl, rM_cl, rS, sdf_cl, rCx_cl, mDd_cl, fW_cl, fV_cl, rPl_cl, rStop_cl, rLd_cl, rState_cl, rOk, wkOf_cl, rWork_cl, rTip_cl, mWo, tBs_cl, tSb_cl, tHv_cl, tRc_cl, fTp_cl, rCb_cl, tpW_cl, tpOf_cl, rTipC_cl, rPool_cl, pqF_cl, rFlv_cl, rFl_cl, rFill_cl, rpZ, rpS_cl, rReplay_cl, qP, rPath_cl, fMd_cl, owOf_cl, rOwn_cl, rMeet_cl, rFact_cl]
theorem lwZ_cl {X : Nat → Int → Int} {i : Nat} (law : Int) : lwZ (clX i X) i law = clX i (lwZ X i law) := by
  unfold lwZ
  simp only [clX_at, clX_i, clX_zU, rFault_cl, mIs_cl, rNet_cl, qN, mC_cl, mTim_cl, bkOf_cl, hZ_cl, rBlock_cl, rDeed_cl, rP_cl, rT_cl, mG_cl, rW, rG, rF_cl, rO_cl, rM_cl, rS, sdf_cl, rCx_cl, mDd_cl, fW_cl, fV_cl, rPl_cl, rStop_cl, rLd_cl, rState_cl, rOk, wkOf_cl, rWork_cl, rTip_cl, mWo, tBs_cl, tSb_cl, tHv_cl, tRc_cl, fTp_cl, rCb_cl, tpW_cl, tpOf_cl, rTipC_cl, rPool_cl, pqF_cl, rFlv_cl, rFl_cl, rFill_cl, rpZ, rpS_cl, rReplay_cl, qP, rPath_cl, fMd_cl, owOf_cl, rOwn_cl, rMeet_cl, rFact_cl, lgOk_cl]
theorem mDn_cl {X : Nat → Int → Int} {i : Nat} : mDn (clX i X) i = mDn X i := by
  unfold mDn
  simp only [clX_at, clX_i, clX_zU, rFault_cl, mIs_cl, rNet_cl, qN, mC_cl, mTim_cl, bkOf_cl, hZ_cl, rBlock_cl, rDeed_cl, rP_cl, rT_cl, mG_cl, rW, rG, rF_cl, rO_cl, rM_cl, rS, sdf_cl, rCx_cl, mDd_cl, fW_cl, fV_cl, rPl_cl, rStop_cl, rLd_cl, rState_cl, rOk, wkOf_cl, rWork_cl, rTip_cl, mWo, tBs_cl, tSb_cl, tHv_cl, tRc_cl, fTp_cl, rCb_cl, tpW_cl, tpOf_cl, rTipC_cl, rPool_cl, pqF_cl, rFlv_cl, rFl_cl, rFill_cl, rpZ, rpS_cl, rReplay_cl, qP, rPath_cl, fMd_cl, owOf_cl, rOwn_cl, rMeet_cl, rFact_cl, lgOk_cl, lwZ_cl]
theorem lwT_cl {X : Nat → Int → Int} {i : Nat} : lwT (clX i X) i = lwT X i := by
  funext law k
  unfold lwT
  simp only [clX_at, clX_i, clX_zU, rFault_cl, mIs_cl, rNet_cl, qN, mC_cl, mTim_cl, bkOf_cl, hZ_cl, rBlock_cl, rDeed_cl, rP_cl, rT_cl, mG_cl, rW, rG, rF_cl, rO_cl, rM_cl, rS, sdf_cl, rCx_cl, mDd_cl, fW_cl, fV_cl, rPl_cl, rStop_cl, rLd_cl, rState_cl, rOk, wkOf_cl, rWork_cl, rTip_cl, mWo, tBs_cl, tSb_cl, tHv_cl, tRc_cl, fTp_cl, rCb_cl, tpW_cl, tpOf_cl, rTipC_cl, rPool_cl, pqF_cl, rFlv_cl, rFl_cl, rFill_cl, rpZ, rpS_cl, rReplay_cl, qP, rPath_cl, fMd_cl, owOf_cl, rOwn_cl, rMeet_cl, rFact_cl, lgOk_cl, lwZ_cl, mDn_cl]
theorem mLf_cl {X : Nat → Int → Int} {i : Nat} : mLf (clX i X) i = mLf X i := by
  funext k w
  unfold mLf
  simp only [clX_at, clX_i, clX_zU, rFault_cl, mIs_cl, rNet_cl, qN, mC_cl, mTim_cl, bkOf_cl, hZ_cl, rBlock_cl, rDeed_cl, rP_cl, rT_cl, mG_cl, rW, rG, rF_cl, rO_cl, rM_cl, rS, sdf_cl, rCx_cl, mDd_cl, fW_cl, fV_cl, rPl_cl, rStop_cl, rLd_cl, rState_cl, rOk, wkOf_cl, rWork_cl, rTip_cl, mWo, tBs_cl, tSb_cl, tHv_cl, tRc_cl, fTp_cl, rCb_cl, tpW_cl, tpOf_cl, rTipC_cl, rPool_cl, pqF_cl, rFlv_cl, rFl_cl, rFill_cl, rpZ, rpS_cl, rReplay_cl, qP, rPath_cl, fMd_cl, owOf_cl, rOwn_cl, rMeet_cl, rFact_cl, lgOk_cl, lwZ_cl, mDn_cl, lwT_cl]
theorem mLn_cl {X : Nat → Int → Int} {i : Nat} : mLn (clX i X) i = mLn X i := by
  unfold mLn
  simp only [clX_at, clX_i, clX_zU, rFault_cl, mIs_cl, rNet_cl, qN, mC_cl, mTim_cl, bkOf_cl, hZ_cl, rBlock_cl, rDeed_cl, rP_cl, rT_cl, mG_cl, rW, rG, rF_cl, rO_cl, rM_cl, rS, sdf_cl, rCx_cl, mDd_cl, fW_cl, fV_cl, rPl_cl, rStop_cl, rLd_cl, rState_cl, rOk, wkOf_cl, rWork_cl, rTip_cl, mWo, tBs_cl, tSb_cl, tHv_cl, tRc_cl, fTp_cl, rCb_cl, tpW_cl, tpOf_cl, rTipC_cl, rPool_cl, pqF_cl, rFlv_cl, rFl_cl, rFill_cl, rpZ, rpS_cl, rReplay_cl, qP, rPath_cl, fMd_cl, owOf_cl, rOwn_cl, rMeet_cl, rFact_cl, lgOk_cl, lwZ_cl, mDn_cl, lwT_cl, mLf_cl]
theorem lwF_cl {X : Nat → Int → Int} {i : Nat} : lwF (clX i X) i = lwF X i := by
  funext law
  unfold lwF
  simp only [clX_at, clX_i, clX_zU, rFault_cl, mIs_cl, rNet_cl, qN, mC_cl, mTim_cl, bkOf_cl, hZ_cl, rBlock_cl, rDeed_cl, rP_cl, rT_cl, mG_cl, rW, rG, rF_cl, rO_cl, rM_cl, rS, sdf_cl, rCx_cl, mDd_cl, fW_cl, fV_cl, rPl_cl, rStop_cl, rLd_cl, rState_cl, rOk, wkOf_cl, rWork_cl, rTip_cl, mWo, tBs_cl, tSb_cl, tHv_cl, tRc_cl, fTp_cl, rCb_cl, tpW_cl, tpOf_cl, rTipC_cl, rPool_cl, pqF_cl, rFlv_cl, rFl_cl, rFill_cl, rpZ, rpS_cl, rReplay_cl, qP, rPath_cl, fMd_cl, owOf_cl, rOwn_cl, rMeet_cl, rFact_cl, lgOk_cl, lwZ_cl, mDn_cl, lwT_cl, mLf_cl, mLn_cl]
theorem scF_cl {X : Nat → Int → Int} {i : Nat} : scF (clX i X) i = scF X i := by
  funext y v law
  unfold scF
  simp only [clX_at, clX_i, clX_zU, rFault_cl, mIs_cl, rNet_cl, qN, mC_cl, mTim_cl, bkOf_cl, hZ_cl, rBlock_cl, rDeed_cl, rP_cl, rT_cl, mG_cl, rW, rG, rF_cl, rO_cl, rM_cl, rS, sdf_cl, rCx_cl, mDd_cl, fW_cl, fV_cl, rPl_cl, rStop_cl, rLd_cl, rState_cl, rOk, wkOf_cl, rWork_cl, rTip_cl, mWo, tBs_cl, tSb_cl, tHv_cl, tRc_cl, fTp_cl, rCb_cl, tpW_cl, tpOf_cl, rTipC_cl, rPool_cl, pqF_cl, rFlv_cl, rFl_cl, rFill_cl, rpZ, rpS_cl, rReplay_cl, qP, rPath_cl, fMd_cl, owOf_cl, rOwn_cl, rMeet_cl, rFact_cl, lgOk_cl, lwZ_cl, mDn_cl, lwT_cl, mLf_cl, mLn_cl, lwF_cl]
theorem fiOf_cl {X : Nat → Int → Int} {i : Nat} : fiOf (clX i X) i = fiOf X i := by
  funext w
  unfold fiOf
  simp only [clX_at, clX_i, clX_zU, rFault_cl, mIs_cl, rNet_cl, qN, mC_cl, mTim_cl, bkOf_cl, hZ_cl, rBlock_cl, rDeed_cl, rP_cl, rT_cl, mG_cl, rW, rG, rF_cl, rO_cl, rM_cl, rS, sdf_cl, rCx_cl, mDd_cl, fW_cl, fV_cl, rPl_cl, rStop_cl, rLd_cl, rState_cl, rOk, wkOf_cl, rWork_cl, rTip_cl, mWo, tBs_cl, tSb_cl, tHv_cl, tRc_cl, fTp_cl, rCb_cl, tpW_cl, tpOf_cl, rTipC_cl, rPool_cl, pqF_cl, rFlv_cl, rFl_cl, rFill_cl, rpZ, rpS_cl, rReplay_cl, qP, rPath_cl, fMd_cl, owOf_cl, rOwn_cl, rMeet_cl, rFact_cl, lgOk_cl, lwZ_cl, mDn_cl, lwT_cl, mLf_cl, mLn_cl, lwF_cl, scF_cl]
theorem hL_cl {X : Nat → Int → Int} {i : Nat} (n c g l : Int) : hL (clX i X) i n c g l = clX i (hL X i n c g l) := by
  unfold hL
  simp only [clX_at, clX_i, clX_zU, rFault_cl, mIs_cl, rNet_cl, qN, mC_cl, mTim_cl, bkOf_cl, hZ_cl, rBlock_cl, rDeed_cl, rP_cl, rT_cl, mG_cl, rW, rG, rF_cl, rO_cl, rM_cl, rS, sdf_cl, rCx_cl, mDd_cl, fW_cl, fV_cl, rPl_cl, rStop_cl, rLd_cl, rState_cl, rOk, wkOf_cl, rWork_cl, rTip_cl, mWo, tBs_cl, tSb_cl, tHv_cl, tRc_cl, fTp_cl, rCb_cl, tpW_cl, tpOf_cl, rTipC_cl, rPool_cl, pqF_cl, rFlv_cl, rFl_cl, rFill_cl, rpZ, rpS_cl, rReplay_cl, qP, rPath_cl, fMd_cl, owOf_cl, rOwn_cl, rMeet_cl, rFact_cl, lgOk_cl, lwZ_cl, mDn_cl, lwT_cl, mLf_cl, mLn_cl, lwF_cl, scF_cl, fiOf_cl]
theorem rFits_cl {X : Nat → Int → Int} {i : Nat} : rFits (clX i X) i = rFits X i := by
  funext n c g l w
  unfold rFits
  simp only [clX_at, clX_i, clX_zU, rFault_cl, mIs_cl, rNet_cl, qN, mC_cl, mTim_cl, bkOf_cl, hZ_cl, rBlock_cl, rDeed_cl, rP_cl, rT_cl, mG_cl, rW, rG, rF_cl, rO_cl, rM_cl, rS, sdf_cl, rCx_cl, mDd_cl, fW_cl, fV_cl, rPl_cl, rStop_cl, rLd_cl, rState_cl, rOk, wkOf_cl, rWork_cl, rTip_cl, mWo, tBs_cl, tSb_cl, tHv_cl, tRc_cl, fTp_cl, rCb_cl, tpW_cl, tpOf_cl, rTipC_cl, rPool_cl, pqF_cl, rFlv_cl, rFl_cl, rFill_cl, rpZ, rpS_cl, rReplay_cl, qP, rPath_cl, fMd_cl, owOf_cl, rOwn_cl, rMeet_cl, rFact_cl, lgOk_cl, lwZ_cl, mDn_cl, lwT_cl, mLf_cl, mLn_cl, lwF_cl, scF_cl, fiOf_cl, hL_cl]
theorem rDrawn_cl {X : Nat → Int → Int} {i : Nat} : rDrawn (clX i X) i = rDrawn X i := by
  funext n c s k w
  unfold rDrawn
  simp only [clX_at, clX_i, clX_zU, rFault_cl, mIs_cl, rNet_cl, qN, mC_cl, mTim_cl, bkOf_cl, hZ_cl, rBlock_cl, rDeed_cl, rP_cl, rT_cl, mG_cl, rW, rG, rF_cl, rO_cl, rM_cl, rS, sdf_cl, rCx_cl, mDd_cl, fW_cl, fV_cl, rPl_cl, rStop_cl, rLd_cl, rState_cl, rOk, wkOf_cl, rWork_cl, rTip_cl, mWo, tBs_cl, tSb_cl, tHv_cl, tRc_cl, fTp_cl, rCb_cl, tpW_cl, tpOf_cl, rTipC_cl, rPool_cl, pqF_cl, rFlv_cl, rFl_cl, rFill_cl, rpZ, rpS_cl, rReplay_cl, qP, rPath_cl, fMd_cl, owOf_cl, rOwn_cl, rMeet_cl, rFact_cl, lgOk_cl, lwZ_cl, mDn_cl, lwT_cl, mLf_cl, mLn_cl, lwF_cl, scF_cl, fiOf_cl, hL_cl, rFits_cl]
theorem grV_cl {X : Nat → Int → Int} {i : Nat} : grV (clX i X) i = grV X i := by
  funext b k
  unfold grV
  simp only [clX_at, clX_i, clX_zU, rFault_cl, mIs_cl, rNet_cl, qN, mC_cl, mTim_cl, bkOf_cl, hZ_cl, rBlock_cl, rDeed_cl, rP_cl, rT_cl, mG_cl, rW, rG, rF_cl, rO_cl, rM_cl, rS, sdf_cl, rCx_cl, mDd_cl, fW_cl, fV_cl, rPl_cl, rStop_cl, rLd_cl, rState_cl, rOk, wkOf_cl, rWork_cl, rTip_cl, mWo, tBs_cl, tSb_cl, tHv_cl, tRc_cl, fTp_cl, rCb_cl, tpW_cl, tpOf_cl, rTipC_cl, rPool_cl, pqF_cl, rFlv_cl, rFl_cl, rFill_cl, rpZ, rpS_cl, rReplay_cl, qP, rPath_cl, fMd_cl, owOf_cl, rOwn_cl, rMeet_cl, rFact_cl, lgOk_cl, lwZ_cl, mDn_cl, lwT_cl, mLf_cl, mLn_cl, lwF_cl, scF_cl, fiOf_cl, hL_cl, rFits_cl, rDrawn_cl]
theorem flTip_cl {X : Nat → Int → Int} {i : Nat} : flTip (clX i X) i = flTip X i := by
  funext rho
  unfold flTip
  simp only [clX_at, clX_i, clX_zU, rFault_cl, mIs_cl, rNet_cl, qN, mC_cl, mTim_cl, bkOf_cl, hZ_cl, rBlock_cl, rDeed_cl, rP_cl, rT_cl, mG_cl, rW, rG, rF_cl, rO_cl, rM_cl, rS, sdf_cl, rCx_cl, mDd_cl, fW_cl, fV_cl, rPl_cl, rStop_cl, rLd_cl, rState_cl, rOk, wkOf_cl, rWork_cl, rTip_cl, mWo, tBs_cl, tSb_cl, tHv_cl, tRc_cl, fTp_cl, rCb_cl, tpW_cl, tpOf_cl, rTipC_cl, rPool_cl, pqF_cl, rFlv_cl, rFl_cl, rFill_cl, rpZ, rpS_cl, rReplay_cl, qP, rPath_cl, fMd_cl, owOf_cl, rOwn_cl, rMeet_cl, rFact_cl, lgOk_cl, lwZ_cl, mDn_cl, lwT_cl, mLf_cl, mLn_cl, lwF_cl, scF_cl, fiOf_cl, hL_cl, rFits_cl, rDrawn_cl, grV_cl]
theorem lvOf_cl {X : Nat → Int → Int} {i : Nat} : lvOf (clX i X) i = lvOf X i := by
  funext w
  unfold lvOf
  simp only [clX_at, clX_i, clX_zU, rFault_cl, mIs_cl, rNet_cl, qN, mC_cl, mTim_cl, bkOf_cl, hZ_cl, rBlock_cl, rDeed_cl, rP_cl, rT_cl, mG_cl, rW, rG, rF_cl, rO_cl, rM_cl, rS, sdf_cl, rCx_cl, mDd_cl, fW_cl, fV_cl, rPl_cl, rStop_cl, rLd_cl, rState_cl, rOk, wkOf_cl, rWork_cl, rTip_cl, mWo, tBs_cl, tSb_cl, tHv_cl, tRc_cl, fTp_cl, rCb_cl, tpW_cl, tpOf_cl, rTipC_cl, rPool_cl, pqF_cl, rFlv_cl, rFl_cl, rFill_cl, rpZ, rpS_cl, rReplay_cl, qP, rPath_cl, fMd_cl, owOf_cl, rOwn_cl, rMeet_cl, rFact_cl, lgOk_cl, lwZ_cl, mDn_cl, lwT_cl, mLf_cl, mLn_cl, lwF_cl, scF_cl, fiOf_cl, hL_cl, rFits_cl, rDrawn_cl, grV_cl, flTip_cl]
theorem rLeaves_cl {X : Nat → Int → Int} {i : Nat} : rLeaves (clX i X) i = rLeaves X i := by
  funext n c w
  unfold rLeaves
  simp only [clX_at, clX_i, clX_zU, rFault_cl, mIs_cl, rNet_cl, qN, mC_cl, mTim_cl, bkOf_cl, hZ_cl, rBlock_cl, rDeed_cl, rP_cl, rT_cl, mG_cl, rW, rG, rF_cl, rO_cl, rM_cl, rS, sdf_cl, rCx_cl, mDd_cl, fW_cl, fV_cl, rPl_cl, rStop_cl, rLd_cl, rState_cl, rOk, wkOf_cl, rWork_cl, rTip_cl, mWo, tBs_cl, tSb_cl, tHv_cl, tRc_cl, fTp_cl, rCb_cl, tpW_cl, tpOf_cl, rTipC_cl, rPool_cl, pqF_cl, rFlv_cl, rFl_cl, rFill_cl, rpZ, rpS_cl, rReplay_cl, qP, rPath_cl, fMd_cl, owOf_cl, rOwn_cl, rMeet_cl, rFact_cl, lgOk_cl, lwZ_cl, mDn_cl, lwT_cl, mLf_cl, mLn_cl, lwF_cl, scF_cl, fiOf_cl, hL_cl, rFits_cl, rDrawn_cl, grV_cl, flTip_cl, lvOf_cl]
theorem roOf_cl {X : Nat → Int → Int} {i : Nat} : roOf (clX i X) i = roOf X i := by
  funext k w
  unfold roOf
  simp only [clX_at, clX_i, clX_zU, rFault_cl, mIs_cl, rNet_cl, qN, mC_cl, mTim_cl, bkOf_cl, hZ_cl, rBlock_cl, rDeed_cl, rP_cl, rT_cl, mG_cl, rW, rG, rF_cl, rO_cl, rM_cl, rS, sdf_cl, rCx_cl, mDd_cl, fW_cl, fV_cl, rPl_cl, rStop_cl, rLd_cl, rState_cl, rOk, wkOf_cl, rWork_cl, rTip_cl, mWo, tBs_cl, tSb_cl, tHv_cl, tRc_cl, fTp_cl, rCb_cl, tpW_cl, tpOf_cl, rTipC_cl, rPool_cl, pqF_cl, rFlv_cl, rFl_cl, rFill_cl, rpZ, rpS_cl, rReplay_cl, qP, rPath_cl, fMd_cl, owOf_cl, rOwn_cl, rMeet_cl, rFact_cl, lgOk_cl, lwZ_cl, mDn_cl, lwT_cl, mLf_cl, mLn_cl, lwF_cl, scF_cl, fiOf_cl, hL_cl, rFits_cl, rDrawn_cl, grV_cl, flTip_cl, lvOf_cl, rLeaves_cl]
theorem rRoot_cl {X : Nat → Int → Int} {i : Nat} : rRoot (clX i X) i = rRoot X i := by
  funext n c k w
  unfold rRoot
  simp only [clX_at, clX_i, clX_zU, rFault_cl, mIs_cl, rNet_cl, qN, mC_cl, mTim_cl, bkOf_cl, hZ_cl, rBlock_cl, rDeed_cl, rP_cl, rT_cl, mG_cl, rW, rG, rF_cl, rO_cl, rM_cl, rS, sdf_cl, rCx_cl, mDd_cl, fW_cl, fV_cl, rPl_cl, rStop_cl, rLd_cl, rState_cl, rOk, wkOf_cl, rWork_cl, rTip_cl, mWo, tBs_cl, tSb_cl, tHv_cl, tRc_cl, fTp_cl, rCb_cl, tpW_cl, tpOf_cl, rTipC_cl, rPool_cl, pqF_cl, rFlv_cl, rFl_cl, rFill_cl, rpZ, rpS_cl, rReplay_cl, qP, rPath_cl, fMd_cl, owOf_cl, rOwn_cl, rMeet_cl, rFact_cl, lgOk_cl, lwZ_cl, mDn_cl, lwT_cl, mLf_cl, mLn_cl, lwF_cl, scF_cl, fiOf_cl, hL_cl, rFits_cl, rDrawn_cl, grV_cl, flTip_cl, lvOf_cl, rLeaves_cl, roOf_cl]
theorem rGain_cl {X : Nat → Int → Int} {i : Nat} : rGain (clX i X) i = rGain X i := by
  funext n c h w
  unfold rGain
  simp only [clX_at, clX_i, clX_zU, rFault_cl, mIs_cl, rNet_cl, qN, mC_cl, mTim_cl, bkOf_cl, hZ_cl, rBlock_cl, rDeed_cl, rP_cl, rT_cl, mG_cl, rW, rG, rF_cl, rO_cl, rM_cl, rS, sdf_cl, rCx_cl, mDd_cl, fW_cl, fV_cl, rPl_cl, rStop_cl, rLd_cl, rState_cl, rOk, wkOf_cl, rWork_cl, rTip_cl, mWo, tBs_cl, tSb_cl, tHv_cl, tRc_cl, fTp_cl, rCb_cl, tpW_cl, tpOf_cl, rTipC_cl, rPool_cl, pqF_cl, rFlv_cl, rFl_cl, rFill_cl, rpZ, rpS_cl, rReplay_cl, qP, rPath_cl, fMd_cl, owOf_cl, rOwn_cl, rMeet_cl, rFact_cl, lgOk_cl, lwZ_cl, mDn_cl, lwT_cl, mLf_cl, mLn_cl, lwF_cl, scF_cl, fiOf_cl, hL_cl, rFits_cl, rDrawn_cl, grV_cl, flTip_cl, lvOf_cl, rLeaves_cl, roOf_cl, rRoot_cl]
theorem rSpeed_cl {X : Nat → Int → Int} {i : Nat} : rSpeed (clX i X) i = rSpeed X i := by
  funext c a k
  unfold rSpeed
  simp only [clX_at, clX_i, clX_zU, rFault_cl, mIs_cl, rNet_cl, qN, mC_cl, mTim_cl, bkOf_cl, hZ_cl, rBlock_cl, rDeed_cl, rP_cl, rT_cl, mG_cl, rW, rG, rF_cl, rO_cl, rM_cl, rS, sdf_cl, rCx_cl, mDd_cl, fW_cl, fV_cl, rPl_cl, rStop_cl, rLd_cl, rState_cl, rOk, wkOf_cl, rWork_cl, rTip_cl, mWo, tBs_cl, tSb_cl, tHv_cl, tRc_cl, fTp_cl, rCb_cl, tpW_cl, tpOf_cl, rTipC_cl, rPool_cl, pqF_cl, rFlv_cl, rFl_cl, rFill_cl, rpZ, rpS_cl, rReplay_cl, qP, rPath_cl, fMd_cl, owOf_cl, rOwn_cl, rMeet_cl, rFact_cl, lgOk_cl, lwZ_cl, mDn_cl, lwT_cl, mLf_cl, mLn_cl, lwF_cl, scF_cl, fiOf_cl, hL_cl, rFits_cl, rDrawn_cl, grV_cl, flTip_cl, lvOf_cl, rLeaves_cl, roOf_cl, rRoot_cl, rGain_cl]
theorem rTwice_cl {X : Nat → Int → Int} {i : Nat} : rTwice (clX i X) i = rTwice X i := by
  funext n c h a b
  unfold rTwice
  simp only [clX_at, clX_i, clX_zU, rFault_cl, mIs_cl, rNet_cl, qN, mC_cl, mTim_cl, bkOf_cl, hZ_cl, rBlock_cl, rDeed_cl, rP_cl, rT_cl, mG_cl, rW, rG, rF_cl, rO_cl, rM_cl, rS, sdf_cl, rCx_cl, mDd_cl, fW_cl, fV_cl, rPl_cl, rStop_cl, rLd_cl, rState_cl, rOk, wkOf_cl, rWork_cl, rTip_cl, mWo, tBs_cl, tSb_cl, tHv_cl, tRc_cl, fTp_cl, rCb_cl, tpW_cl, tpOf_cl, rTipC_cl, rPool_cl, pqF_cl, rFlv_cl, rFl_cl, rFill_cl, rpZ, rpS_cl, rReplay_cl, qP, rPath_cl, fMd_cl, owOf_cl, rOwn_cl, rMeet_cl, rFact_cl, lgOk_cl, lwZ_cl, mDn_cl, lwT_cl, mLf_cl, mLn_cl, lwF_cl, scF_cl, fiOf_cl, hL_cl, rFits_cl, rDrawn_cl, grV_cl, flTip_cl, lvOf_cl, rLeaves_cl, roOf_cl, rRoot_cl, rGain_cl, rSpeed_cl]
theorem afT_cl {X : Nat → Int → Int} {i : Nat} : afT (clX i X) i = afT X i := by
  funext k
  unfold afT
  simp only [clX_at, clX_i, clX_zU, rFault_cl, mIs_cl, rNet_cl, qN, mC_cl, mTim_cl, bkOf_cl, hZ_cl, rBlock_cl, rDeed_cl, rP_cl, rT_cl, mG_cl, rW, rG, rF_cl, rO_cl, rM_cl, rS, sdf_cl, rCx_cl, mDd_cl, fW_cl, fV_cl, rPl_cl, rStop_cl, rLd_cl, rState_cl, rOk, wkOf_cl, rWork_cl, rTip_cl, mWo, tBs_cl, tSb_cl, tHv_cl, tRc_cl, fTp_cl, rCb_cl, tpW_cl, tpOf_cl, rTipC_cl, rPool_cl, pqF_cl, rFlv_cl, rFl_cl, rFill_cl, rpZ, rpS_cl, rReplay_cl, qP, rPath_cl, fMd_cl, owOf_cl, rOwn_cl, rMeet_cl, rFact_cl, lgOk_cl, lwZ_cl, mDn_cl, lwT_cl, mLf_cl, mLn_cl, lwF_cl, scF_cl, fiOf_cl, hL_cl, rFits_cl, rDrawn_cl, grV_cl, flTip_cl, lvOf_cl, rLeaves_cl, roOf_cl, rRoot_cl, rGain_cl, rSpeed_cl, rTwice_cl]
theorem afB_cl {X : Nat → Int → Int} {i : Nat} : afB (clX i X) i = afB X i := by
  funext k
  unfold afB
  simp only [clX_at, clX_i, clX_zU, rFault_cl, mIs_cl, rNet_cl, qN, mC_cl, mTim_cl, bkOf_cl, hZ_cl, rBlock_cl, rDeed_cl, rP_cl, rT_cl, mG_cl, rW, rG, rF_cl, rO_cl, rM_cl, rS, sdf_cl, rCx_cl, mDd_cl, fW_cl, fV_cl, rPl_cl, rStop_cl, rLd_cl, rState_cl, rOk, wkOf_cl, rWork_cl, rTip_cl, mWo, tBs_cl, tSb_cl, tHv_cl, tRc_cl, fTp_cl, rCb_cl, tpW_cl, tpOf_cl, rTipC_cl, rPool_cl, pqF_cl, rFlv_cl, rFl_cl, rFill_cl, rpZ, rpS_cl, rReplay_cl, qP, rPath_cl, fMd_cl, owOf_cl, rOwn_cl, rMeet_cl, rFact_cl, lgOk_cl, lwZ_cl, mDn_cl, lwT_cl, mLf_cl, mLn_cl, lwF_cl, scF_cl, fiOf_cl, hL_cl, rFits_cl, rDrawn_cl, grV_cl, flTip_cl, lvOf_cl, rLeaves_cl, roOf_cl, rRoot_cl, rGain_cl, rSpeed_cl, rTwice_cl, afT]
theorem afOf_cl {X : Nat → Int → Int} {i : Nat} : afOf (clX i X) i = afOf X i := by
  funext w
  unfold afOf
  simp only [clX_at, clX_i, clX_zU, rFault_cl, mIs_cl, rNet_cl, qN, mC_cl, mTim_cl, bkOf_cl, hZ_cl, rBlock_cl, rDeed_cl, rP_cl, rT_cl, mG_cl, rW, rG, rF_cl, rO_cl, rM_cl, rS, sdf_cl, rCx_cl, mDd_cl, fW_cl, fV_cl, rPl_cl, rStop_cl, rLd_cl, rState_cl, rOk, wkOf_cl, rWork_cl, rTip_cl, mWo, tBs_cl, tSb_cl, tHv_cl, tRc_cl, fTp_cl, rCb_cl, tpW_cl, tpOf_cl, rTipC_cl, rPool_cl, pqF_cl, rFlv_cl, rFl_cl, rFill_cl, rpZ, rpS_cl, rReplay_cl, qP, rPath_cl, fMd_cl, owOf_cl, rOwn_cl, rMeet_cl, rFact_cl, lgOk_cl, lwZ_cl, mDn_cl, lwT_cl, mLf_cl, mLn_cl, lwF_cl, scF_cl, fiOf_cl, hL_cl, rFits_cl, rDrawn_cl, grV_cl, flTip_cl, lvOf_cl, rLeaves_cl, roOf_cl, rRoot_cl, rGain_cl, rSpeed_cl, rTwice_cl, afT, afB]
theorem rAfter_cl {X : Nat → Int → Int} {i : Nat} : rAfter (clX i X) i = rAfter X i := by
  funext n c f w
  unfold rAfter
  simp only [clX_at, clX_i, clX_zU, rFault_cl, mIs_cl, rNet_cl, qN, mC_cl, mTim_cl, bkOf_cl, hZ_cl, rBlock_cl, rDeed_cl, rP_cl, rT_cl, mG_cl, rW, rG, rF_cl, rO_cl, rM_cl, rS, sdf_cl, rCx_cl, mDd_cl, fW_cl, fV_cl, rPl_cl, rStop_cl, rLd_cl, rState_cl, rOk, wkOf_cl, rWork_cl, rTip_cl, mWo, tBs_cl, tSb_cl, tHv_cl, tRc_cl, fTp_cl, rCb_cl, tpW_cl, tpOf_cl, rTipC_cl, rPool_cl, pqF_cl, rFlv_cl, rFl_cl, rFill_cl, rpZ, rpS_cl, rReplay_cl, qP, rPath_cl, fMd_cl, owOf_cl, rOwn_cl, rMeet_cl, rFact_cl, lgOk_cl, lwZ_cl, mDn_cl, lwT_cl, mLf_cl, mLn_cl, lwF_cl, scF_cl, fiOf_cl, hL_cl, rFits_cl, rDrawn_cl, grV_cl, flTip_cl, lvOf_cl, rLeaves_cl, roOf_cl, rRoot_cl, rGain_cl, rSpeed_cl, rTwice_cl, afT, afB, afOf_cl]
theorem odOf_cl {X : Nat → Int → Int} {i : Nat} : odOf (clX i X) i = odOf X i := by
  funext r u
  unfold odOf
  simp only [clX_at, clX_i, clX_zU, rFault_cl, mIs_cl, rNet_cl, qN, mC_cl, mTim_cl, bkOf_cl, hZ_cl, rBlock_cl, rDeed_cl, rP_cl, rT_cl, mG_cl, rW, rG, rF_cl, rO_cl, rM_cl, rS, sdf_cl, rCx_cl, mDd_cl, fW_cl, fV_cl, rPl_cl, rStop_cl, rLd_cl, rState_cl, rOk, wkOf_cl, rWork_cl, rTip_cl, mWo, tBs_cl, tSb_cl, tHv_cl, tRc_cl, fTp_cl, rCb_cl, tpW_cl, tpOf_cl, rTipC_cl, rPool_cl, pqF_cl, rFlv_cl, rFl_cl, rFill_cl, rpZ, rpS_cl, rReplay_cl, qP, rPath_cl, fMd_cl, owOf_cl, rOwn_cl, rMeet_cl, rFact_cl, lgOk_cl, lwZ_cl, mDn_cl, lwT_cl, mLf_cl, mLn_cl, lwF_cl, scF_cl, fiOf_cl, hL_cl, rFits_cl, rDrawn_cl, grV_cl, flTip_cl, lvOf_cl, rLeaves_cl, roOf_cl, rRoot_cl, rGain_cl, rSpeed_cl, rTwice_cl, afT, afB, afOf_cl, rAfter_cl]
theorem rOdds_cl {X : Nat → Int → Int} {i : Nat} : rOdds (clX i X) i = rOdds X i := by
  funext n c g l r u
  unfold rOdds
  simp only [clX_at, clX_i, clX_zU, rFault_cl, mIs_cl, rNet_cl, qN, mC_cl, mTim_cl, bkOf_cl, hZ_cl, rBlock_cl, rDeed_cl, rP_cl, rT_cl, mG_cl, rW, rG, rF_cl, rO_cl, rM_cl, rS, sdf_cl, rCx_cl, mDd_cl, fW_cl, fV_cl, rPl_cl, rStop_cl, rLd_cl, rState_cl, rOk, wkOf_cl, rWork_cl, rTip_cl, mWo, tBs_cl, tSb_cl, tHv_cl, tRc_cl, fTp_cl, rCb_cl, tpW_cl, tpOf_cl, rTipC_cl, rPool_cl, pqF_cl, rFlv_cl, rFl_cl, rFill_cl, rpZ, rpS_cl, rReplay_cl, qP, rPath_cl, fMd_cl, owOf_cl, rOwn_cl, rMeet_cl, rFact_cl, lgOk_cl, lwZ_cl, mDn_cl, lwT_cl, mLf_cl, mLn_cl, lwF_cl, scF_cl, fiOf_cl, hL_cl, rFits_cl, rDrawn_cl, grV_cl, flTip_cl, lvOf_cl, rLeaves_cl, roOf_cl, rRoot_cl, rGain_cl, rSpeed_cl, rTwice_cl, afT, afB, afOf_cl, rAfter_cl, odOf_cl]
theorem rFault_o {X X1 : Nat → Int → Int} {i : Nat} (h : ∀ z, i ≤ z → X1 z = X z) : rFault X1 i = rFault X i := by
  rw [← rFault_cl (X := X1), ← rFault_cl (X := X), clX_g h]
theorem rNet_o {X X1 : Nat → Int → Int} {i : Nat} (h : ∀ z, i ≤ z → X1 z = X z) : rNet X1 i = rNet X i := by
  rw [← rNet_cl (X := X1), ← rNet_cl (X := X), clX_g h]
theorem rBlock_o {X X1 : Nat → Int → Int} {i : Nat} (h : ∀ z, i ≤ z → X1 z = X z) : rBlock X1 i = rBlock X i := by
  rw [← rBlock_cl (X := X1), ← rBlock_cl (X := X), clX_g h]
theorem rDeed_o {X X1 : Nat → Int → Int} {i : Nat} (h : ∀ z, i ≤ z → X1 z = X z) : rDeed X1 i = rDeed X i := by
  rw [← rDeed_cl (X := X1), ← rDeed_cl (X := X), clX_g h]
theorem rStop_o {X X1 : Nat → Int → Int} {i : Nat} (h : ∀ z, i ≤ z → X1 z = X z) : rStop X1 i = rStop X i := by
  rw [← rStop_cl (X := X1), ← rStop_cl (X := X), clX_g h]
theorem rState_o {X X1 : Nat → Int → Int} {i : Nat} (h : ∀ z, i ≤ z → X1 z = X z) : rState X1 i = rState X i := by
  rw [← rState_cl (X := X1), ← rState_cl (X := X), clX_g h]
theorem rWork_o {X X1 : Nat → Int → Int} {i : Nat} (h : ∀ z, i ≤ z → X1 z = X z) : rWork X1 i = rWork X i := by
  rw [← rWork_cl (X := X1), ← rWork_cl (X := X), clX_g h]
theorem rTipC_o {X X1 : Nat → Int → Int} {i : Nat} (h : ∀ z, i ≤ z → X1 z = X z) : rTipC X1 i = rTipC X i := by
  rw [← rTipC_cl (X := X1), ← rTipC_cl (X := X), clX_g h]
theorem rPool_o {X X1 : Nat → Int → Int} {i : Nat} (h : ∀ z, i ≤ z → X1 z = X z) : rPool X1 i = rPool X i := by
  rw [← rPool_cl (X := X1), ← rPool_cl (X := X), clX_g h]
theorem rFill_o {X X1 : Nat → Int → Int} {i : Nat} (h : ∀ z, i ≤ z → X1 z = X z) : rFill X1 i = rFill X i := by
  rw [← rFill_cl (X := X1), ← rFill_cl (X := X), clX_g h]
theorem rReplay_o {X X1 : Nat → Int → Int} {i : Nat} (h : ∀ z, i ≤ z → X1 z = X z) : rReplay X1 i = rReplay X i := by
  rw [← rReplay_cl (X := X1), ← rReplay_cl (X := X), clX_g h]
theorem rPath_o {X X1 : Nat → Int → Int} {i : Nat} (h : ∀ z, i ≤ z → X1 z = X z) : rPath X1 i = rPath X i := by
  rw [← rPath_cl (X := X1), ← rPath_cl (X := X), clX_g h]
theorem rOwn_o {X X1 : Nat → Int → Int} {i : Nat} (h : ∀ z, i ≤ z → X1 z = X z) : rOwn X1 i = rOwn X i := by
  rw [← rOwn_cl (X := X1), ← rOwn_cl (X := X), clX_g h]
theorem rMeet_o {X X1 : Nat → Int → Int} {i : Nat} (h : ∀ z, i ≤ z → X1 z = X z) : rMeet X1 i = rMeet X i := by
  rw [← rMeet_cl (X := X1), ← rMeet_cl (X := X), clX_g h]
theorem rFact_o {X X1 : Nat → Int → Int} {i : Nat} (h : ∀ z, i ≤ z → X1 z = X z) : rFact X1 i = rFact X i := by
  rw [← rFact_cl (X := X1), ← rFact_cl (X := X), clX_g h]
theorem rFits_o {X X1 : Nat → Int → Int} {i : Nat} (h : ∀ z, i ≤ z → X1 z = X z) : rFits X1 i = rFits X i := by
  rw [← rFits_cl (X := X1), ← rFits_cl (X := X), clX_g h]
theorem rDrawn_o {X X1 : Nat → Int → Int} {i : Nat} (h : ∀ z, i ≤ z → X1 z = X z) : rDrawn X1 i = rDrawn X i := by
  rw [← rDrawn_cl (X := X1), ← rDrawn_cl (X := X), clX_g h]
theorem rLeaves_o {X X1 : Nat → Int → Int} {i : Nat} (h : ∀ z, i ≤ z → X1 z = X z) : rLeaves X1 i = rLeaves X i := by
  rw [← rLeaves_cl (X := X1), ← rLeaves_cl (X := X), clX_g h]
theorem rRoot_o {X X1 : Nat → Int → Int} {i : Nat} (h : ∀ z, i ≤ z → X1 z = X z) : rRoot X1 i = rRoot X i := by
  rw [← rRoot_cl (X := X1), ← rRoot_cl (X := X), clX_g h]
theorem rGain_o {X X1 : Nat → Int → Int} {i : Nat} (h : ∀ z, i ≤ z → X1 z = X z) : rGain X1 i = rGain X i := by
  rw [← rGain_cl (X := X1), ← rGain_cl (X := X), clX_g h]
theorem rSpeed_o {X X1 : Nat → Int → Int} {i : Nat} (h : ∀ z, i ≤ z → X1 z = X z) : rSpeed X1 i = rSpeed X i := by
  rw [← rSpeed_cl (X := X1), ← rSpeed_cl (X := X), clX_g h]
theorem rTwice_o {X X1 : Nat → Int → Int} {i : Nat} (h : ∀ z, i ≤ z → X1 z = X z) : rTwice X1 i = rTwice X i := by
  rw [← rTwice_cl (X := X1), ← rTwice_cl (X := X), clX_g h]
theorem rAfter_o {X X1 : Nat → Int → Int} {i : Nat} (h : ∀ z, i ≤ z → X1 z = X z) : rAfter X1 i = rAfter X i := by
  rw [← rAfter_cl (X := X1), ← rAfter_cl (X := X), clX_g h]
theorem rOdds_o {X X1 : Nat → Int → Int} {i : Nat} (h : ∀ z, i ≤ z → X1 z = X z) : rOdds X1 i = rOdds X i := by
  rw [← rOdds_cl (X := X1), ← rOdds_cl (X := X), clX_g h]
