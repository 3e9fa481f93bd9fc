set_option maxHeartbeats 400000
/-! the means: the calls -/
section
variable {S : SM} {u : Nat}
theorem zs_us_lt (g : GX u S) : zs_us S (S 1 0) < 2 ^ 31 := by
  have h := fb_sm_bound (f := fun f => S 4 f) (c := 200000) (n := S 1 0) (fun f hf => Nat.le_trans (g.2.2.2.2.2.2.2.1 f hf) g.2.2.2.2.2.2.2.2.2.2)
  have h2 : zs_us S (S 1 0) = fb_sm (fun f => S 4 f) (S 1 0) := rfl
  have hc := g.c12
  have h3 := Nat.mul_le_mul_right 200000 hc
  have h4 := Nat.mul_le_mul_left 200000 hc
  omega
theorem zt_meanWay : St_meanWay ZI := by
  intro n C M K hn h
  obtain ⟨S, T, hc, ⟨hX, hK, g, h99⟩, hH, hB⟩ := id h
  have hc12 := g.c12
  have h8 := g.o8
  have lo := g.lo
  have hw12 := g.1.2.1
  have hT : RT (ofs 2 M) S := hX.t
  have hK0 : RK ((sr K 0 (upd (K 0) 0 (nI 0))) 1) S := hK
  have m2 : M 7 2 = nI (S 6 2) := hX.2.1.2.2.1
  have m3 : M 7 3 = nI (S 6 3) := hX.2.1.2.2.2.1
  have b3 : S 6 3 ≤ 200000 := Nat.le_trans g.2.2.2.2.2.2.2.2.2.1 g.2.2.2.2.2.2.2.2.2.2
  have lt : zs_us S (S 1 0) < 2 ^ 31 := zs_us_lt g
  have e1 := zx_meanOf (a := zs_uw S (S 1 0)) (b := zs_us S (S 1 0)) lt
  have ex : fX8_meanWay M = some (if zs_us S (S 1 0) = 0 then FP.dconst0 else FP.ddiv (FP.i2d (nI (zs_uw S (S 1 0)))) (FP.i2d (nI (zs_us S (S 1 0))))) := by
    unfold fX8_meanWay
    rw [zx_sumOfUsedWays hT g.1, zn_bs, zx_sumOfUses hT hc12, zn_bs, e1, zn_bs]
  have ek := zk_meanByUse (K := (sr K 0 (upd (K 0) 0 (nI 0)))) hK0 g (zs_us_lt g)
  have ey : fX9_meanWay K = some ((if zs_us S (S 1 0) = 0 then FP.dconst0 else FP.ddiv (FP.i2d (nI (zs_uw S (S 1 0)))) (FP.i2d (nI (zs_us S (S 1 0))))), (sr K 0 (upd (K 0) 0 (nI 0)))) := by
    unfold fX9_meanWay
    rw [show (0 : Int32) = nI 0 from rfl, ek, zn_bs]
  exact ⟨_, _, ex, ey, ⟨rfl, zn_mean0 lt⟩, h.thr hn rfl rfl⟩
theorem zt_meanTicks : St_meanTicks ZI := by
  intro n C M K hn h
  obtain ⟨S, T, hc, ⟨hX, hK, g, h99⟩, hH, hB⟩ := id h
  have hc12 := g.c12
  have h8 := g.o8
  have lo := g.lo
  have hw12 := g.1.2.1
  have hT : RT (ofs 2 M) S := hX.t
  have hK0 : RK ((sr K 0 (upd (K 0) 0 (nI 0))) 1) S := hK
  have m2 : M 7 2 = nI (S 6 2) := hX.2.1.2.2.1
  have m3 : M 7 3 = nI (S 6 3) := hX.2.1.2.2.2.1
  have b3 : S 6 3 ≤ 200000 := Nat.le_trans g.2.2.2.2.2.2.2.2.2.1 g.2.2.2.2.2.2.2.2.2.2
  have lt : S 6 3 < 2 ^ 31 := by omega
  have e1 := zx_meanOf (a := S 6 2) (b := S 6 3) lt
  have ex : fX8_meanTicks M = some (if S 6 3 = 0 then FP.dconst0 else FP.ddiv (FP.i2d (nI (S 6 2))) (FP.i2d (nI (S 6 3)))) := by
    unfold fX8_meanTicks
    rw [m2, m3, e1, zn_bs]
  have ek := zk_meanByFetch (K := (sr K 0 (upd (K 0) 0 (nI 0)))) hK0 g
  have ey : fX9_meanTicks K = some ((if S 6 3 = 0 then FP.dconst0 else FP.ddiv (FP.i2d (nI (S 6 2))) (FP.i2d (nI (S 6 3)))), (sr K 0 (upd (K 0) 0 (nI 0)))) := by
    unfold fX9_meanTicks
    rw [show (0 : Int32) = nI 0 from rfl, ek, zn_bs]
  exact ⟨_, _, ex, ey, ⟨rfl, zn_mean0 lt⟩, h.thr hn rfl rfl⟩
end
