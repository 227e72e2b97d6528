/-! flock: both -/
set_option maxRecDepth 100000 in theorem pc_Z {μ μ' : Mem} {d : Nat} (hd : d = 3 ∨ d = 15) (p : PC μ) (e : ∀ x y, ¬ (ZC d x y ∨ (x = 1 ∧ y = 1) ∨ (x = 0 ∧ (y = 1 ∨ y = 2 ∨ y = 14)) ∨ (x = 30 ∧ y < 2) ∨ (31 ≤ x ∧ x ≤ 34) ∨ (x = 40 ∧ y = 0) ∨ (x = 44 ∧ y = 1)) → μ' x y = μ x y) : PC μ' := by
  rcases hd with rfl | rfl
  · exact p.keep (S := fun x y => (x = 1 ∧ 1 ≤ y) ∨ (x = 27 ∧ 3 ≤ y) ∨ x = 28 ∨ x = 29 ∨ (x = 3 ∧ y < 4) ∨ (4 ≤ x ∧ x ≤ 8) ∨ (x = 9 ∧ 2 ≤ y) ∨ x = 10 ∨ (x = 12 ∧ 2 ≤ y) ∨ x = 13 ∨ (x = 0 ∧ (y = 1 ∨ y = 2 ∨ y = 14)) ∨ (x = 30 ∧ y < 2) ∨ (31 ≤ x ∧ x ≤ 34) ∨ (x = 40 ∧ y = 0) ∨ (x = 44 ∧ y = 1)) (fun x y h => e x y (by unfold ZC; omega)) (by decide)
  · exact p.keep (S := fun x y => (x = 1 ∧ 1 ≤ y) ∨ (x = 27 ∧ 3 ≤ y) ∨ x = 28 ∨ x = 29 ∨ (x = 15 ∧ y < 4) ∨ (16 ≤ x ∧ x ≤ 20) ∨ (x = 21 ∧ 2 ≤ y) ∨ x = 22 ∨ (x = 24 ∧ 2 ≤ y) ∨ x = 25 ∨ (x = 0 ∧ (y = 1 ∨ y = 2 ∨ y = 14)) ∨ (x = 30 ∧ y < 2) ∨ (31 ≤ x ∧ x ≤ 34) ∨ (x = 40 ∧ y = 0) ∨ (x = 44 ∧ y = 1)) (fun x y h => e x y (by unfold ZC; omega)) (by decide)
set_option maxRecDepth 100000 in theorem R0.refuse {μC μM mC mM : Mem} {h d n P M : Nat} (R : R0 μC μM h d n P M) (eC : ∀ x y, ¬ (ZC d x y ∨ (x = 1 ∧ y = 1)) → mC x y = μC x y) (c1 : mC 1 1 = 0) (pm : PM mM) (m2 : mM 0 2 = 0) (eM : ∀ x y, ¬ (ZM x y ∨ x = 2 ∨ x = 3 ∨ x = 4 ∨ (x = 0 ∧ (y = 2 ∨ y = 3))) → mM x y = μM x y) : R0 mC mM h d n P M := by
  have hh := R.hd.1
  have n1 := R.fb.n1
  have M1 := R.fb.M1
  have e15 : mM 15 = μM 15 := funext (fun y => eM 15 y (by unfold ZM; omega))
  have f6 : ∀ i, i < 190 → mM 6 i = μM 6 i := fun i hi => eM _ _ (by unfold ZM; omega)
  have f7 : ∀ i, i < 1100 → mM 7 i = μM 7 i := fun i hi => eM _ _ (by unfold ZM; omega)
  have f8 : ∀ i, i < 1100 → mM 8 i = μM 8 i := fun i hi => eM _ _ (by unfold ZM; omega)
  refine ⟨pc_Z (d := d) (by omega) R.pc (fun x y hx => eC x y (fun z => hx (by rcases z with z | z; exact .inl z; exact .inr (.inl z)))), ⟨hh, by rw [eC _ _ (by unfold ZC; omega)]; exact R.hd.2.1, by rw [eC _ _ (by unfold ZC; omega)]; exact R.hd.2.2⟩, pm, by rw [eM _ _ (by unfold ZM; omega)]; exact R.th, R.fb.ofl (fun i hi => f6 i (by omega)), (R.fr.of (fun a b h1 h2 => eC _ _ (by unfold ZC; omega))).ofl n1 M1 (fun i hi => f6 i (by omega)), ?_, ?_, ⟨by rw [c1, m2], by rw [m2]; decide, by rw [m2]; decide, fun i hi => by rw [m2] at hi; omega, fun i hi => by rw [m2] at hi; omega⟩, by rw [e15]; exact R.lr.of (fun a b h1 h2 => eC _ _ (by unfold ZC; omega)) (fun _ _ => rfl), by rw [e15]; exact R.gr.of R.sg.f1 (fun a b h1 h2 => eC _ _ (by unfold ZC; omega)) (fun _ _ _ => rfl), by rw [e15]; exact R.sl, by rw [e15]; exact R.sg, R.pr.of (fun a b h1 h2 => eC _ _ (by unfold ZC; omega)) (eM _ _ (by unfold ZM; omega)) (fun i _ _ => eM _ _ (by unfold ZM; omega)), R.mr.of n1 (eC _ _ (by unfold ZC; omega)) (fun a b h1 h2 => eC _ _ (by unfold ZC; omega)) (fun m hm => eM _ _ (by unfold ZM; omega)) (fun i _ _ => eM _ _ (by unfold ZM; omega))⟩
  · rw [f6 183 (by decide)]
    exact (R.lw.of (fun a b h1 => eC _ _ (by unfold ZC; omega))).ref f7 f8
  · rw [f6 184 (by decide)]
    exact (R.sw.of (fun a b h1 => eC _ _ (by unfold ZC; omega))).ref f7 f8
set_option maxRecDepth 100000 in theorem st_flock : STP RR fX11_flock fX12_flock [] := by
  rintro μC μM ⟨h, d, n, P, M, R⟩
  have th := ud_same R.th
  have hh := R.hd.1
  have hd : d = 3 ∨ d = 15 := by omega
  obtain ⟨N, hN⟩ := Int.eq_ofNat_of_zero_le R.tr.l0
  have hN : μM 0 2 = (N : Int) := hN
  have N1 : N ≤ 1000 := by have := R.tr.l1; omega
  have cr : ∀ i, i < N → μM 1 i = 10 ∨ 32 ≤ μM 1 i ∧ μM 1 i ≤ 126 := fun i hi => R.tr.rg i (by omega)
  have tq : TQ μC (μM 1) N := ⟨R.pc.p1_0, R.tr.le.trans hN, N1, fun i hi => R.tr.si i (by omega), cr⟩
  have obd : ObFl shC μC d := by
    rcases hd with rfl | rfl
    · exact R.pc.fl3
    · exact R.pc.fl15
  -- before the lines
  obtain ⟨T, k1, ec, T1, T2, cut, s2, s3, s7, s8, s02, E1⟩ := r_cut R.pm hN N1 (fun i _ => rfl) cr
  have pk1 : PM k1 := R.pm.keep (S := fun x y => x = 2 ∨ x = 3 ∨ x = 4 ∨ (x = 0 ∧ (y = 2 ∨ y = 3 ∨ y = 7 ∨ y = 8))) (fun x y hs => E1 x y (by omega) (by omega) (by omega) (by omega)) (by decide)
  have mq1 : MDq k1 (μM 1) N T 0 := ⟨pk1, cut, s2, s3, T1, N1, T2, s7, Nat.zero_le _⟩
  generalize hk2 : ud (ud (ud k1 0 13 0) 0 14 0) 0 17 0 = k2
  have E2 : ∀ x y, ¬ (x = 0 ∧ (y = 13 ∨ y = 14 ∨ y = 17)) → k2 x y = k1 x y := fun x y hx => by rw [← hk2, ud_n (by omega), ud_n (by omega), ud_n (by omega)]
  have pk2 : PM k2 := pk1.keep (S := fun x y => x = 0 ∧ (y = 13 ∨ y = 14 ∨ y = 17)) (fun x y hs => E2 x y hs) (by decide)
  obtain ⟨k3, l0, Z3, E3⟩ := r_fl0 pk2
  generalize hk4 : ud (ud (ud k3 6 190 12) 6 373 (-1)) 6 374 (-1) = k4
  have E4 : ∀ x y, ¬ (x = 6 ∧ 190 ≤ y) → k4 x y = k2 x y := fun x y hx => by rw [← hk4, ud_n (by omega), ud_n (by omega), ud_n (by omega)]; exact E3 x y hx
  have mq4 : MDq k4 (μM 1) N T 0 := mq1.of (fun x y hx => by rw [E4 _ _ (by omega), E2 _ _ (by omega)]) (by rw [E4 _ _ (by omega), E2 _ _ (by omega)]; exact s7) (Nat.zero_le _)
  obtain ⟨m1, cA, cB, rq, z6, c0, c1, c2, c3, c4, c5, c6, c7, c8, c9, c10, EC⟩ := c_pre hd tq obd R.pc.p27_0 R.pc.p27_1 R.pc.p27_2
  have pf : PF μC k1 m1 k4 (μM 1) N T d 0 0 := ⟨rq, mq4, by rw [E4 _ _ (by omega), E2 _ _ (by omega)]; exact s8, by rw [E4 _ _ (by omega), ← hk2, ud_n (by omega), ud_n (by omega), ud_s]; rfl, Nat.le_refl _, EC, fun x y hx => by unfold ZM at hx; rw [E4 _ _ (by omega), E2 _ _ (by omega)]⟩
  have fz : ∀ i, i < 190 → i ≠ 0 → i ≠ 183 → i ≠ 184 → fld k4 i = 0 := fun i hi h1 h2 h3 => by
    show k4 6 (190 + i) = 0
    rw [← hk4, ud_n (by omega), ud_n (by omega), ud_n (by omega)]
    exact Z3 i hi
  have f0 : fld k4 0 = 12 := by
    show k4 6 (190 + 0) = 12
    rw [← hk4, ud_n (by omega), ud_n (by omega), ud_s]
  have f183 : fld k4 183 = -1 := by
    show k4 6 (190 + 183) = -1
    rw [← hk4, ud_n (by omega), ud_s]
  have f184 : fld k4 184 = -1 := by
    show k4 6 (190 + 184) = -1
    rw [← hk4, ud_s]
  have cn : CN m1 k4 (μM 1) N T d 0 12 0 0 := by
    refine ⟨⟨?_, .inl z6⟩, ⟨f0, by decide, by decide, fz 1 (by decide) (by decide) (by decide) (by decide), by decide, by decide, fz 2 (by decide) (by decide) (by decide) (by decide), by decide, fun b hb => by omega, fun b hb => by omega, fun a b ha hb => by rw [fz _ (by omega) (by omega) (by omega) (by omega)]; decide, fun a b ha hb => by rw [fz _ (by omega) (by omega) (by omega) (by omega), fz _ (by omega) (by omega) (by omega) (by omega)], fun m hm => by omega, fun m hm => by omega⟩, ⟨by rw [c0, f0], by rw [c1, fz 1 (by decide) (by decide) (by decide) (by decide)], c2, by rw [c3, fz 2 (by decide) (by decide) (by decide) (by decide)], fun b hb => by omega, fun b hb => by omega, fun i hi => by rw [c4 i hi, fz _ (by omega) (by omega) (by omega) (by omega)], fun m hm => by omega, fun m hm => by omega⟩, fun a b ha hb _ => fz _ (by omega) (by omega) (by omega) (by omega), ⟨?_, fun k hk => by omega, fun b hb => by omega, fun m hm => by omega, fun a b ha => by omega, fun b m hb => by omega⟩, .inl ⟨f183, c5, c6, c7⟩, .inl ⟨f184, c8, c9, c10⟩⟩
    · rw [E4 _ _ (by omega), ← hk2, ud_n (by omega), ud_s, z6]
    · rw [E4 _ _ (by omega), ← hk2, ud_s]; rfl
  have q10a : k3 0 10 = rf 6 := by rw [E3 _ _ (by omega)]; exact pk2.p10
  have q10b : ud k3 6 190 12 0 10 = rf 6 := by rw [ud_n (by omega)]; exact q10a
  have q10c : ud (ud k3 6 190 12) 6 373 (-1) 0 10 = rf 6 := by rw [ud_n (by omega)]; exact q10b
  obtain ⟨rC, rM, lC, lM, hq⟩ := b_lines (mC := μC) (mM := k1) (c := μM 1) (N := N) (T := T) (d := d) (f := (0, 190)) (T - 0) [(2, rf 27), (2, rf d), (0, ((0 : Nat) : Int)), (3, 0)] m1 [(2, rf 0), (0, 190)] k4 ⟨0, 0, 0, 0, 12, 0, 3, 0, rfl, rfl, by decide, rfl, pf, cn, Nat.le_refl _⟩
  rw [show ((0 : Nat) : Int) = 0 from rfl] at lC
  rcases hq with ⟨a, K, n', P', M', m', k', eC', rfl, rfl, p', cn'⟩ | ⟨F, m', k', eC', rfl, rfl, Fp, fo, F8⟩
  · -- the text is taken
    have rd := cA _ _ lC
    have la := p'.la
    have ka := p'.ka
    have EC' := p'.fc
    have EM' := p'.fm
    have pm' := p'.mq.1
    obtain ⟨k5, l2, A5, E5⟩ := r_fl2 pm'
    have pk5 : PM k5 := pm'.keep (S := fun x y => x = 6) (fun x y hs => E5 x y (fun z => hs z.1)) (by decide)
    have k13 : k5 0 13 = (K : Int) := by rw [E5 _ _ (by omega)]; exact p'.k0
    obtain ⟨k6, l3, A6, E6⟩ := r_fl3 pk5 k13 (by omega)
    have pk6 : PM k6 := pk5.keep (S := fun x y => x = 7 ∨ x = 8) (fun x y hs => E6 x y (by omega)) (by decide)
    have bg := f_begins (sh := shM) (μ := k6) ⟨sM_0, sM_15, sM_16, pk6.p23, pk6.p25⟩
    have z15 := fun b (hb : b < 12) => bgM_m (μ := k6) hb
    have z15' := fun b (hb : b < 290) (h2 : ¬ (2 ≤ b ∧ b < 26)) => bgM_z (μ := k6) hb h2
    have z16 := fun b (hb : b < 4) => bgM_k (μ := k6) hb
    have z24 := bgM_u (μ := k6)
    have E7 : ∀ x y, ¬ ((x = 15 ∧ y < 290) ∨ (x = 16 ∧ y < 4) ∨ (x = 0 ∧ y = 24)) → bgM k6 x y = k6 x y := fun x y hx => bgM_n hx
    have pk7 : PM (bgM k6) := pk6.keep (S := fun x y => x = 15 ∨ x = 16 ∨ (x = 0 ∧ y = 24)) (fun x y hs => E7 x y (by omega)) (by decide)
    generalize bgM k6 = k7 at *
    -- the class's end
    generalize hm2 : ud (ud (ud m' 1 1 0) 0 2 (rf h)) 0 1 (rf d) = m2
    have F2 : ∀ x y, ¬ ((x = 1 ∧ y = 1) ∨ (x = 0 ∧ (y = 1 ∨ y = 2))) → m2 x y = m' x y := fun x y hx => by rw [← hm2, ud_n (by omega), ud_n (by omega), ud_n (by omega)]
    have pcm' : PC m' := pc_Z hd R.pc (fun x y hx => EC' x y (fun z => hx (.inl z)))
    have pc2 : PC m2 := pc_Z hd R.pc (fun x y hx => by rw [F2 _ _ (by omega)]; exact EC' x y (fun z => hx (.inl z)))
    obtain ⟨m3, er, y0, y1, y2, y3, y4, y5, F3⟩ := c_lreset pc2.ly30
    generalize hm4 : ud (ud (ud m3 40 0 0) 44 1 0) 0 14 0 = m4
    have F4 : ∀ x y, ¬ ((x = 40 ∧ y = 0) ∨ (x = 44 ∧ y = 1) ∨ (x = 0 ∧ y = 14)) → m4 x y = m3 x y := fun x y hx => by rw [← hm4, ud_n (by omega), ud_n (by omega), ud_n (by omega)]
    have F : ∀ x y, ¬ ((x = 40 ∧ y = 0) ∨ (x = 44 ∧ y = 1) ∨ (x = 0 ∧ (y = 1 ∨ y = 2 ∨ y = 14)) ∨ (x = 30 ∧ y < 2) ∨ (31 ≤ x ∧ x ≤ 34) ∨ (x = 1 ∧ y = 1)) → m4 x y = m' x y := fun x y hx => by rw [F4 _ _ (by omega), F3 _ _ (by omega), F2 _ _ (by omega)]
    have G : ∀ x y, ¬ (ZC d x y ∨ (x = 1 ∧ y = 1) ∨ (x = 0 ∧ (y = 1 ∨ y = 2 ∨ y = 14)) ∨ (x = 30 ∧ y < 2) ∨ (31 ≤ x ∧ x ≤ 34) ∨ (x = 40 ∧ y = 0) ∨ (x = 44 ∧ y = 1)) → m4 x y = μC x y := fun x y hx => by rw [F _ _ (by omega)]; exact EC' x y (fun z => hx (.inl z))
    have pc4 : PC m4 := pc_Z hd R.pc G
    have w11 : m4 1 1 = 0 := by rw [F4 _ _ (by omega), F3 _ _ (by omega), ← hm2, ud_n (by omega), ud_n (by omega), ud_s]
    have w01 : m4 0 1 = rf d := by rw [F4 _ _ (by omega), F3 _ _ (by omega), ← hm2, ud_s]
    have w02 : m4 0 2 = rf h := by rw [F4 _ _ (by omega), F3 _ _ (by omega), ← hm2, ud_n (by omega), ud_s]
    have w14 : m4 0 14 = 0 := by rw [← hm4, ud_s]
    have w40 : m4 40 0 = 0 := by rw [← hm4, ud_n (by omega), ud_n (by omega), ud_s]
    have w44 : m4 44 1 = 0 := by rw [← hm4, ud_n (by omega), ud_s]
    have H : ∀ x y, ¬ ((x = 15 ∧ y < 290) ∨ (x = 16 ∧ y < 4) ∨ (x = 0 ∧ y = 24) ∨ (x = 6 ∧ y < 190) ∨ ((x = 7 ∨ x = 8) ∧ y < K)) → k7 x y = k' x y := fun x y hx => by rw [E7 _ _ (by omega), E6 _ _ (by omega), E5 _ _ (by omega)]
    have h6 : ∀ i, i < 190 → k7 6 i = fld k' i := fun i hi => by rw [E7 _ _ (by omega), E6 _ _ (by omega), A5 i hi]; rfl
    have h7 : ∀ i, i < K → k7 7 i = opD k' i := fun i hi => by rw [E7 _ _ (by omega), (A6 i hi).1, E5 _ _ (by omega)]; rfl
    have h8 : ∀ i, i < K → k7 8 i = agD k' i := fun i hi => by rw [E7 _ _ (by omega), (A6 i hi).2, E5 _ _ (by omega)]; rfl
    have h02 : k7 0 2 = 0 := by rw [H _ _ (by omega), EM' _ _ (by unfold ZM; omega)]; exact s02
    have h00 : k7 0 0 = 0 := by rw [H _ _ (by omega), EM' _ _ (by unfold ZM; omega), E1 _ _ (by omega) (by omega) (by omega) (by omega)]; exact R.th
    have n1 := cn'.fb.n1
    have M1 := cn'.fb.M1
    obtain ⟨SLz, SGz⟩ := fresh_sl (st := k7 15) (n := n') (P := P') z15 z15'
    have z182 : k7 15 182 = 0 := z15' 182 (by decide) (by omega)
    refine ⟨0, m4, k7, ?_, ?_, d, h, n', P', M', pc4, ⟨by omega, w01, w02⟩, pk7, h00, cn'.fb.ofl (fun i hi => h6 i (by omega)), (cn'.fr.of (fun x y g1 g2 => F _ _ (by omega))).ofl n1 M1 (fun i hi => h6 i (by omega)), ?_, ?_, ⟨by rw [w11, h02], by rw [h02]; decide, by rw [h02]; decide, fun i hi => by rw [h02] at hi; omega, fun i hi => by rw [h02] at hi; omega⟩, ⟨by rw [F4 _ _ (by omega), y0, z15' 0 (by decide) (by omega)], by rw [F4 _ _ (by omega), y1, z15' 1 (by decide) (by omega)], fun b hb => by rw [F4 _ _ (by omega), y2 b hb, (z15 b hb).1], fun b hb => by rw [F4 _ _ (by omega), y3 b hb, (z15 b hb).2], fun b hb => by rw [F4 _ _ (by omega), y4 b hb, z15' _ (by omega) (by omega)], fun i hi => by rw [F4 _ _ (by omega), y5 i hi, z15' _ (by omega) (by omega)]⟩, ⟨by rw [w40, z182], fun i hi => by rw [z182] at hi; omega, fun i hi => by rw [z182] at hi; omega, fun i hi => by rw [z182] at hi; omega⟩, SLz, SGz, ⟨by rw [w44, z24], by rw [z24]; decide, by rw [z24]; decide, by rw [G _ _ (by unfold ZC; omega)]; exact R.pr.w0, by rw [G _ _ (by unfold ZC; omega)]; exact R.pr.w1, fun j hj => by rw [z24] at hj; omega⟩, ⟨⟨0, by decide, w14, fun m hm => by rw [z16 m hm]; simp⟩, fun m hm z => by rw [z16 m hm] at z; cases z⟩⟩
    · have p3 : μC 0 3 = rf 27 := R.pc.p0_3
      have p2 : μC 0 2 = rf d := R.hd.2.2
      have p0 : m' 0 0 = rf 1 := pcm'.p0_0
      have v2 : ud m' 1 1 0 0 2 = rf d := by rw [ud_n (by omega), EC' _ _ (by unfold ZC; omega)]; exact p2
      have v1 : ud m' 1 1 0 0 1 = rf h := by rw [ud_n (by omega), EC' _ _ (by unfold ZC; omega)]; exact R.hd.2.1
      have v4 : m2 0 4 = rf 30 := pc2.p0_4
      have v6 : m3 0 6 = rf 40 := by rw [F3 _ _ (by omega)]; exact pc2.p0_6
      have v7 : ud m3 40 0 0 0 7 = rf 44 := by rw [ud_n (by omega), F3 _ _ (by omega)]; exact pc2.p0_7
      clear F F2 F3 F4 G H h6 h7 h8 E1 E2 E3 E4 E5 E6 E7 EC EC' EM' cA cB A5 A6 fz cut z15 z15' z16 SLz SGz y2 y3 y4 y5
      simp -implicitDefEqProofs (disch := omega) [fX11_flock, bX11_flock, v_cop, v_c1, v_c2, v_c3, v_c4, v_c5, v_bin, v_bn, v_bn2, v_div, v_dv, v_dv2, v_une, v_un, v_loc, v_num, v_get, v_gt, v_ald, v_al, v_al2, v_len, v_ln, v_rl0, v_rl1, v_rl2, v_rl3, v_rl4, v_rl5, v_cmp, v_cp, v_cp2, v_zC, v_zc, v_con, v_kc, v_and, v_an1, v_an0, v_or, v_or1, v_or0, v_not, v_nt, v_boo, v_bo, v_cnd, v_cd1, v_cd0, v_cnc, v_cc1, v_cc0, v_ev0, v_ev, v_e1, v_e2, v_cve, v_cv, v_cse, v_cs, v_skip, v_seq, v_sq0, v_sq1, v_sqr, v_sts, v_st, v_inc, v_put, v_pt, v_pt2, v_fop, v_fo, v_fo2, v_ast, v_as, v_as2, v_as3, v_aop, v_ao, v_ao2, v_ao3, v_exs, v_ex, v_ifs, v_if1, v_if0, v_ret, v_rt, v_rez, v_rz, v_rev, v_brk, v_sws, v_sw, v_sw2, v_run, v_rb, v_turn, v_tu1, v_tu0, v_tu2, v_tu3, fst1, snd1, Option.map_some, Option.getD_some, enA, en, stE, okb, narV, rf_toNat, rf_nn, List.getElem?_cons_zero, List.getElem?_cons_succ, w32_id, w64_id, ite_t, ite_f, Int.toNat_add, Int.toNat_mul, dec_t, dec_f, sC_0, sC_1, sC_27, sC_30, sC_40, sC_44, p3, p2, rd, p0, v2, v1, hm2, v4, er, v6, v7, hm4]
    · have f8' := p'.f0
      clear F F2 F3 F4 G H h6 h7 h8 E1 E2 E3 E4 E5 E6 E7 EC EC' EM' cA cB A5 A6 fz cut z15 z15' z16 SLz SGz y2 y3 y4 y5
      simp -implicitDefEqProofs (disch := omega) [fX12_flock, bX12_flock, kX12_flock_0, kX12_flock_1, kX12_flock_2, kX12_flock_3, v_cop, v_c1, v_c2, v_c3, v_c4, v_c5, v_bin, v_bn, v_bn2, v_div, v_dv, v_dv2, v_une, v_un, v_loc, v_num, v_get, v_gt, v_ald, v_al, v_al2, v_len, v_ln, v_rl0, v_rl1, v_rl2, v_rl3, v_rl4, v_rl5, v_cmp, v_cp, v_cp2, v_zC, v_zc, v_con, v_kc, v_and, v_an1, v_an0, v_or, v_or1, v_or0, v_not, v_nt, v_boo, v_bo, v_cnd, v_cd1, v_cd0, v_cnc, v_cc1, v_cc0, v_ev0, v_ev, v_e1, v_e2, v_cve, v_cv, v_cse, v_cs, v_skip, v_seq, v_sq0, v_sq1, v_sqr, v_sts, v_st, v_inc, v_put, v_pt, v_pt2, v_fop, v_fo, v_fo2, v_ast, v_as, v_as2, v_as3, v_aop, v_ao, v_ao2, v_ao3, v_exs, v_ex, v_ifs, v_if1, v_if0, v_ret, v_rt, v_rez, v_rz, v_rev, v_brk, v_sws, v_sw, v_sw2, v_run, v_rb, v_turn, v_tu1, v_tu0, v_tu2, v_tu3, fst1, snd1, Option.map_some, Option.getD_some, enA, en, stE, okb, narV, rf_toNat, rf_nn, List.getElem?_cons_zero, List.getElem?_cons_succ, w32_id, w64_id, ite_t, ite_f, Int.toNat_add, Int.toNat_mul, dec_t, dec_f, sM_0, sM_6, th, ec, hk2, l0, q10a, q10b, q10c, hk4, lM, f8', l2, l3, bg]
    · rw [h6 183 (by decide)]
      exact (cn'.ll.cls (fun x y hx => F _ _ (by omega))).lw h7 h8
    · rw [h6 184 (by decide)]
      exact (cn'.ls.cls (fun x y hx => F _ _ (by omega))).lw h7 h8
  · -- the text is refused
    have rd := cB _ _ _ lC
    obtain ⟨F', a, K, g1, g2, g3, g4, g5, g6, EC', EM'⟩ := fo
    have pcm' : PC m' := pc_Z hd R.pc (fun x y hx => EC' x y (fun z => hx (.inl z)))
    have Fn : ¬ F = 0 := by omega
    refine ⟨F, ud m' 1 1 0, k', ?_, ?_, h, d, n, P, M, R.refuse (fun x y hx => ?_) ud_s g4.1 ?_ (fun x y hx => ?_)⟩
    · have p3 : μC 0 3 = rf 27 := R.pc.p0_3
      have p2 : μC 0 2 = rf d := R.hd.2.2
      have p0 : m' 0 0 = rf 1 := pcm'.p0_0
      clear E1 E2 E3 E4 EC EC' EM' cA cB fz cut
      simp -implicitDefEqProofs (disch := omega) [fX11_flock, bX11_flock, v_cop, v_c1, v_c2, v_c3, v_c4, v_c5, v_bin, v_bn, v_bn2, v_div, v_dv, v_dv2, v_une, v_un, v_loc, v_num, v_get, v_gt, v_ald, v_al, v_al2, v_len, v_ln, v_rl0, v_rl1, v_rl2, v_rl3, v_rl4, v_rl5, v_cmp, v_cp, v_cp2, v_zC, v_zc, v_con, v_kc, v_and, v_an1, v_an0, v_or, v_or1, v_or0, v_not, v_nt, v_boo, v_bo, v_cnd, v_cd1, v_cd0, v_cnc, v_cc1, v_cc0, v_ev0, v_ev, v_e1, v_e2, v_cve, v_cv, v_cse, v_cs, v_skip, v_seq, v_sq0, v_sq1, v_sqr, v_sts, v_st, v_inc, v_put, v_pt, v_pt2, v_fop, v_fo, v_fo2, v_ast, v_as, v_as2, v_as3, v_aop, v_ao, v_ao2, v_ao3, v_exs, v_ex, v_ifs, v_if1, v_if0, v_ret, v_rt, v_rez, v_rz, v_rev, v_brk, v_sws, v_sw, v_sw2, v_run, v_rb, v_turn, v_tu1, v_tu0, v_tu2, v_tu3, fst1, snd1, Option.map_some, Option.getD_some, enA, en, stE, okb, narV, rf_toNat, rf_nn, List.getElem?_cons_zero, List.getElem?_cons_succ, w32_id, w64_id, ite_t, ite_f, Int.toNat_add, Int.toNat_mul, dec_t, dec_f, sC_0, sC_1, sC_27, p3, p2, rd, p0, Fn]
    · clear E1 E2 E3 E4 EC EC' EM' cA cB fz cut
      simp -implicitDefEqProofs (disch := omega) [fX12_flock, bX12_flock, kX12_flock_0, kX12_flock_1, v_cop, v_c1, v_c2, v_c3, v_c4, v_c5, v_bin, v_bn, v_bn2, v_div, v_dv, v_dv2, v_une, v_un, v_loc, v_num, v_get, v_gt, v_ald, v_al, v_al2, v_len, v_ln, v_rl0, v_rl1, v_rl2, v_rl3, v_rl4, v_rl5, v_cmp, v_cp, v_cp2, v_zC, v_zc, v_con, v_kc, v_and, v_an1, v_an0, v_or, v_or1, v_or0, v_not, v_nt, v_boo, v_bo, v_cnd, v_cd1, v_cd0, v_cnc, v_cc1, v_cc0, v_ev0, v_ev, v_e1, v_e2, v_cve, v_cv, v_cse, v_cs, v_skip, v_seq, v_sq0, v_sq1, v_sqr, v_sts, v_st, v_inc, v_put, v_pt, v_pt2, v_fop, v_fo, v_fo2, v_ast, v_as, v_as2, v_as3, v_aop, v_ao, v_ao2, v_ao3, v_exs, v_ex, v_ifs, v_if1, v_if0, v_ret, v_rt, v_rez, v_rz, v_rev, v_brk, v_sws, v_sw, v_sw2, v_run, v_rb, v_turn, v_tu1, v_tu0, v_tu2, v_tu3, fst1, snd1, Option.map_some, Option.getD_some, enA, en, stE, okb, narV, rf_toNat, rf_nn, List.getElem?_cons_zero, List.getElem?_cons_succ, w32_id, w64_id, ite_t, ite_f, Int.toNat_add, Int.toNat_mul, dec_t, dec_f, sM_0, sM_6, th, ec, hk2, l0, q10a, q10b, q10c, hk4, lM, F8, Fp]
    · rw [ud_n (fun z => hx (.inr z))]
      exact EC' x y (fun z => hx (.inl z))
    · rw [EM' _ _ (by unfold ZM; omega)]; exact s02
    · rw [EM' x y (fun z => hx (.inl z)), E1 _ _ (by omega) (by omega) (by omega) (fun z => hx (by unfold ZM; omega))]
