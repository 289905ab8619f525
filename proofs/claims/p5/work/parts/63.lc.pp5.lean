/-! p5: what both calls answer. -/
noncomputable section XPp5
theorem fieldqA : tMth x_tb 43 = some xm43 := g_q43
theorem fieldqB : tMth x_tb 225 = some xm225 := g_q225
def fieldWA : List (Nat × Nat) := ((x_CT 43).map cW).flatten
def fieldWB : List (Nat × Nat) := ((x_CT 225).map cW).flatten
theorem fieldHk : bHk lwN 3 fieldWA fieldWB 60 60 (x_CT 43) (x_CT 225) = true := by decide +kernel
theorem fieldPP {xs : Nat → Int32} {n : Nat} {sf : Option Nat} (hall : ∀ j c, c ∈ x_CT j → vCtSem x_KT x_tb x_tyl (x_otS xs n sf) j c) : bPP x_KT x_tb x_tyl (x_otS xs n sf) lwN lwP 1299 43 225 3 (mMc xm43 + mMc xm225) (mRc xm43) (mRc xm225) True :=
  bPP_of (W := x_WP) (by decide +kernel) (bHS_of fieldHk (fun c h => hall 43 c h) (fun c h => hall 225 c h) fieldqA fieldqB (by decide) (by decide) (by decide +kernel) (by decide +kernel) (by decide +kernel) (by decide +kernel)) (fun ρ σ ty H t a b HA HH ρ2 σ2 ty2 hl hr hq z1 z2 hs hr2 hle hf => by
    refine ⟨fun _ => ?_, lwP_keep ρ σ ty H ρ2 σ2 ty2 HH hr hq (fun i hi => ?_) hle hf hr2⟩
    · obtain ⟨m, hm⟩ : ∃ m : Nat, ρ 3 = (m : Int) := ⟨(ρ 3).toNat, by
        have h1 := hr.2.2.2.1 (3, ((0 : Int), (12 : Int))) (by decide +kernel)
        have h1 : (0 : Int) ≤ ρ 3 ∧ ρ 3 ≤ 12 := h1
        omega⟩
      have hx : HX ρ σ ty H m := ⟨hr, hq.2, hm⟩
      exact f_same (dp := 1294) (cd_of hx) (sv_of hx) (kA_of hx (by omega) (fun _ => 0)) (kB_of hx (by omega) (fun _ => 0)) (st_of hx (by omega)) z1 z2
    · have hi2 : i < (aG lwN).length := (show (aG lwN).length = 66 from rfl) ▸ hi
      have h9 := hs i hi2
      unfold sR at h9
      rwa [if_pos (by omega), if_pos (by omega)] at h9)
end XPp5
