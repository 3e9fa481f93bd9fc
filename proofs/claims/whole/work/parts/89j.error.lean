set_option maxHeartbeats 400000
/-! the calls that read an order's text -/
theorem zr_text {m36 m37 : Nat → Int32} {k08 : Int32} {k6 : Nat → Int32} (h : ZB m36 m37 k08 k6) : ∃ len, ∃ t : Nat → Nat, len ≤ 60 ∧ m36 0 = nI len ∧ k08 = nI len ∧ (∀ i, i < len → m37 i = nI (t i) ∧ t i ≤ 126) ∧ (∀ i, i < len → k6 i = nI (t i)) := by
  obtain ⟨len, a, b, c, d⟩ := h
  have e : ∀ i, i < len → m37 i = nI (m37 i).toNatClampNeg ∧ (m37 i).toNatClampNeg ≤ 126 ∧ k6 i = m37 i := fun i hi => by
    obtain ⟨x, x1, x2, x3, x4⟩ := d i hi
    rw [x3, x4, nI_clamp (by omega)]
    exact ⟨rfl, x2, rfl⟩
  exact ⟨len, fun i => (m37 i).toNatClampNeg, a, b, c, fun i hi => ⟨(e i hi).1, (e i hi).2.1⟩, fun i hi => (e i hi).2.2.trans (e i hi).1⟩
theorem zt_firstError : St_firstError ZI := by
  intro n C M K hn h
  obtain ⟨S, T, hc, ⟨hX, hK, g, h99⟩, hH, hB⟩ := id h
  have hc12 := g.c12
  have h8 := g.o8
  have lo := g.lo
  have hw12 := g.1.2.1
  have hT : RT (ofs 2 M) S := hX.t
  have hK0 : RK ((sr K 0 (upd (K 0) 0 (nI 0))) 1) S := hK
  obtain ⟨len, t, hl, m0, k0, mt, kt⟩ := zr_text hB
  obtain ⟨zx, e1, -, -⟩ := zx_readAll (M := ofs 36 M) hl m0 mt
  obtain ⟨zk, f1, f2, f3, f4, f5, f6⟩ := zk_readsOrder (K := (sr K 0 (upd (K 0) 0 (nI 0)))) (t := t) hl (fun i hi => (mt i hi).2) k0 kt
  obtain ⟨tT, tF⟩ := zp_all t len
  have ex : fX8_firstError M = some (nI (zp_run t len 0 0 0 (fun _ => 0)).1, sr (sr M 38 (zx 2)) 39 (zx 3)) := by
    unfold fX8_firstError
    rw [e1, zn_bs]
  obtain ⟨y, ek, y1, y4, y8⟩ : ∃ y : Int32 × Mem, fX9_firstError K = some y ∧ nI (zp_run t len 0 0 0 (fun _ => 0)).1 = y.1 ∧ y.2 0 4 = K 0 4 ∧ y.2 0 8 = K 0 8 := by
    unfold fX9_firstError fX9_firstError_B23
    rw [show (0 : Int32) = nI 0 from rfl, f1, zn_bs]
    cases b : (zq_all (zq_s t len) len).1
    · have r := (tF b).1
      refine ⟨_, if_pos rfl, ?_, f6, f4.trans k0.symm⟩
      rw [r]
      exact f2.symm
    · have r := (tT b).1
      refine ⟨_, if_neg (show ¬ nI 1 = nI 0 by decide), ?_, f6, f4.trans k0.symm⟩
      rw [r]
      exact f4.symm
  refine ⟨_, y, ex, ek, y1, ?_⟩
  obtain ⟨S', T', hc', ⟨a, b, c, d⟩, e, f⟩ := h.thr hn y4 y8
  exact ⟨S', T', hc', ⟨a.of rfl rfl rfl rfl rfl rfl rfl rfl rfl rfl rfl rfl rfl rfl rfl , b, c, d⟩, e, f⟩

