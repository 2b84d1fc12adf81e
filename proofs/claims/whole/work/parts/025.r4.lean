/-! the ten formats of the reference -/
theorem mod_B {f L : Int32} {t s : Nat} (ht : 2 ≤ t) (hs : 2 ≤ s) (hs2 : s ≤ 30) (hw : t + s ≤ 127) (htm : t ≤ 120) (hov : L.toInt + (2 ^ s - 3 : Nat) < 2 ^ 31) (hf : ¬ (4:Int32) ≤ f) (hf3 : ¬ (3:Int32) < f) (hask : f_M_asks f = (true, (0:Int32))) (hdig : f_M_digitsOf f = nI (t + 1)) (hwid : f_M_width f = nI (t + 1 + s)) (hL : f_M_least f = L) (hG : f_M_greatest f = nI (2 ^ s - 3) + L) (hsz : t + s + 1 = 128 ∨ t + s + 1 = 64 ∨ t + s + 1 < 64) (sp md : Nat → Int32) : Mod (fB t s L (nI (2 ^ s - 3) + L)) f sp md := by
  have ps : 2 ^ s ≤ 2 ^ 30 := Nat.pow_le_pow_right (by decide) hs2
  have ps4 : 2 ^ 2 ≤ 2 ^ s := Nat.pow_le_pow_right (by decide) hs
  refine ⟨fB_good ht hs hs2 hw hov, hask, by rw [hwid, Nat.add_right_comm]; rfl, hsz, ?_, ?_, ?_, ?_, ok_fits (by omega) (by omega) hdig, ?_⟩
  · intro h l w
    rw [if_neg hf]
    exact openB ht (by omega) hs2 hw hdig hwid hL h l w
  · intro kd ex w hk
    exact fitsB ht htm hf hf3 hdig hL hG kd ex hk
  · intro kd ex w h l S hk ho hh hS
    rw [if_neg hf]
    refine ⟨_, _, _, rfl, ?_, fun _ _ => rfl⟩
    have hh2 : hB t L (nI (2 ^ s - 3) + L) kd ex (WN w 0) = true := hh
    unfold hB at hh2
    refine closeB ht (by omega) hs2 hw hdig hwid hL hk hS (d := (ex - L).toNatClampNeg) ?_ ho.2 ?_
    · intro k0
      rw [if_pos k0] at hh2
      obtain ⟨a1, a2, a3, a4⟩ := of_decide_eq_true hh2
      obtain ⟨b1, b2⟩ := rng (by omega) hov a1 a2
      exact ⟨b1, by omega, a4⟩
    · intro k0
      rw [if_neg k0] at hh2
      by_cases k1 : kd = 1
      · rw [ho.2 k1]; exact Nat.two_pow_pos _
      · rw [if_neg k1] at hh2
        exact (of_decide_eq_true hh2).1
  · intro h l
    unfold ok_M_open
    exact fun u e => ⟨fun q => absurd q hf, fun _ => ok_openB ht hs2 hw hdig hwid⟩
  · intro w hk
    unfold ok_M_close
    exact ⟨fun q => absurd q hf, fun _ => ok_closeB ht hs2 hw hdig hwid⟩
theorem mod_P {f L : Int32} {t g p : Nat} (hg : 7 ≤ g) (hg2 : g ≤ 30) (hw : t + g ≤ 127) (hp2 : 2 ≤ p) (hp38 : p ≤ 38) (hp : 10 ^ p ≤ 10 * 2 ^ t) (hq : 10 ^ (p - 1) ≤ 2 ^ t) (hov : L.toInt + (3 * 2 ^ (g - 5) - 1 : Nat) < 2 ^ 31) (hf : (4:Int32) ≤ f) (hf3 : (3:Int32) < f) (hf6 : f ≤ (6:Int32)) (hask : f_M_asks f = (true, (0:Int32))) (hdig : f_M_digitsOf f = nI p) (hwid : f_M_width f = nI (t + g + 1)) (htl : f_M_tail f = nI t) (hL : f_M_least f = L) (hG : f_M_greatest f = nI (3 * 2 ^ (g - 5) - 1) + L) (hsz : t + g + 1 = 128 ∨ t + g + 1 = 64 ∨ t + g + 1 < 64) (sp md : Nat → Int32) : Mod (fP t g p L (nI (3 * 2 ^ (g - 5) - 1) + L)) f sp md := by
  have pg : 2 ^ g ≤ 2 ^ 30 := Nat.pow_le_pow_right (by decide) hg2
  have e5 : 2 ^ g = 32 * 2 ^ (g - 5) := by rw [pw2 (g := g) (k := 5) (by omega)]
  have p0 : 0 < 2 ^ (g - 5) := Nat.two_pow_pos _
  have q0 : 0 < 10 ^ (p - 1) := Nat.pow_pos (by decide)
  have qp : 10 ^ (p - 1) ≤ 10 ^ p := Nat.pow_le_pow_right (by decide) (by omega)
  refine ⟨fP_good hg hg2 hw hp hq hov, hask, hwid, hsz, ?_, ?_, ?_, ?_, ok_fits hp2 (by omega) hdig, ?_⟩
  · intro h l w
    rw [if_pos hf]
    exact openP hg hg2 hw hp2 hp38 hf6 hdig hwid htl hL h l w sp
  · intro kd ex w hk
    exact fitsD hp2 hp38 hf hf3 hdig hL hG kd ex hk
  · intro kd ex w h l S hk ho hh hS
    rw [if_pos hf]
    obtain ⟨a1, a2, a3⟩ := hP_use (by omega) hov qp q0 ho (show hP (10 ^ p) (10 ^ (p - 1)) L (nI (3 * 2 ^ (g - 5) - 1) + L) kd ex (WN w 0) = true from hh)
    obtain ⟨ch, cl, c1, c2⟩ := closeP hg hg2 hw hf6 hwid htl hL hk hS (d := (ex - L).toNatClampNeg) (kd := kd) (ex := ex) (fun k => ⟨(a1 k).1, by have := (a1 k).2; omega⟩) (by omega) ho.2 (fun k => by have := a3 k; omega) ho.1 md
    exact ⟨ch, cl, w, c1, c2, fun _ _ => rfl⟩
  · intro h l
    unfold ok_M_open
    exact fun u e => ⟨fun _ => ok_openP hg hg2 hw hp2 hp38 hf6 hdig hwid htl _ _, fun q => absurd hf q⟩
  · intro w hk
    unfold ok_M_close
    exact ⟨fun _ => ok_closeP hg hg2 hw hf6 hwid htl w, fun q => absurd hf q⟩
theorem mod_T {f L : Int32} {n g : Nat} (hg : 7 ≤ g) (hg2 : g ≤ 30) (hn1 : 1 ≤ n) (hn : n ≤ 11) (hw : 10 * n + g ≤ 127) (hov : L.toInt + (3 * 2 ^ (g - 5) - 1 : Nat) < 2 ^ 31) (hf : (4:Int32) ≤ f) (hf3 : (3:Int32) < f) (hf6 : ¬ f ≤ (6:Int32)) (hask : f_M_asks f = (true, (0:Int32))) (hdig : f_M_digitsOf f = nI (3 * n + 1)) (hwid : f_M_width f = nI (10 * n + g + 1)) (htl : f_M_tail f = nI (10 * n)) (hL : f_M_least f = L) (hG : f_M_greatest f = nI (3 * 2 ^ (g - 5) - 1) + L) (hsz : 10 * n + g + 1 = 128 ∨ 10 * n + g + 1 = 64 ∨ 10 * n + g + 1 < 64) {sp md : Nat → Int32} (hsp : ∀ d, d < 1024 → sp d = f_E_read (nI d)) (hmd : ∀ m, m < 1000 → md m = f_E_write (nI m)) : Mod (fT n g L (nI (3 * 2 ^ (g - 5) - 1) + L)) f sp md := by
  have pg : 2 ^ g ≤ 2 ^ 30 := Nat.pow_le_pow_right (by decide) hg2
  have e5 : 2 ^ g = 32 * 2 ^ (g - 5) := by rw [pw2 (g := g) (k := 5) (by omega)]
  have p0 : 0 < 2 ^ (g - 5) := Nat.two_pow_pos _
  have q0 : 0 < 10 ^ (3 * n) := Nat.pow_pos (by decide)
  have qp : 10 ^ (3 * n) ≤ 10 ^ (3 * n + 1) := Nat.pow_le_pow_right (by decide) (by omega)
  have h3 : 10 ^ (3 * n + 1) = 10 * 1000 ^ n := by rw [Nat.pow_succ, Nat.pow_mul, Nat.mul_comm]
  have h4 : 10 ^ (3 * n) = 1000 ^ n := by rw [Nat.pow_mul]
  refine ⟨fT_good hg hg2 hn hw hov, hask, hwid, hsz, ?_, ?_, ?_, ?_, ok_fits (by omega) (by omega) hdig, ?_⟩
  · intro h l w
    rw [if_pos hf]
    exact openT hg hg2 hn hw hf6 hwid htl hL h l w hsp
  · intro kd ex w hk
    have := fitsD (p := 3 * n + 1) (by omega) (by omega) hf hf3 hdig hL hG kd ex hk
    rw [show 3 * n + 1 - 1 = 3 * n from by omega] at this
    exact this
  · intro kd ex w h l S hk ho hh hS
    rw [if_pos hf]
    obtain ⟨a1, a2, a3⟩ := hP_use (by omega) hov qp q0 ho (show hP (10 ^ (3 * n + 1)) (10 ^ (3 * n)) L (nI (3 * 2 ^ (g - 5) - 1) + L) kd ex (WN w 0) = true from hh)
    obtain ⟨ch, cl, W, c1, c2, c3⟩ := closeT hg hg2 hn hw hf6 hwid htl hL hk hS (d := (ex - L).toNatClampNeg) (kd := kd) (ex := ex) (fun k => ⟨(a1 k).1, by have := (a1 k).2; omega⟩) ((Nat.div_lt_iff_lt_mul (Nat.pow_pos (by decide))).mpr (by omega)) ho.2 (fun k => Nat.div_eq_of_lt (by have := a3 k; omega)) ho.1 hmd
    exact ⟨ch, cl, W, c1, c2, fun q hq => c3 q (by omega)⟩
  · intro h l
    unfold ok_M_open
    exact fun u e => ⟨fun _ => ok_openT hg hg2 hn hw hf6 hwid htl _ _, fun q => absurd hf q⟩
  · intro w hk
    unfold ok_M_close
    exact ⟨fun _ => ok_closeT hg hg2 hn hw hf6 hwid htl hk, fun q => absurd hf q⟩
def FF : Nat → FS
  | 0 => fB 10 5 (-24) (nI (2 ^ 5 - 3) + (-24))
  | 1 => fB 23 8 (-149) (nI (2 ^ 8 - 3) + (-149))
  | 2 => fB 52 11 (-1074) (nI (2 ^ 11 - 3) + (-1074))
  | 3 => fB 112 15 (-16494) (nI (2 ^ 15 - 3) + (-16494))
  | 4 => fP 20 11 7 (-101) (nI (3 * 2 ^ (11 - 5) - 1) + (-101))
  | 5 => fP 50 13 16 (-398) (nI (3 * 2 ^ (13 - 5) - 1) + (-398))
  | 6 => fP 110 17 34 (-6176) (nI (3 * 2 ^ (17 - 5) - 1) + (-6176))
  | 7 => fT 2 11 (-101) (nI (3 * 2 ^ (11 - 5) - 1) + (-101))
  | 8 => fT 5 13 (-398) (nI (3 * 2 ^ (13 - 5) - 1) + (-398))
  | _ => fT 11 17 (-6176) (nI (3 * 2 ^ (17 - 5) - 1) + (-6176))
theorem mods {sp md : Nat → Int32} (hsp : ∀ d, d < 1024 → sp d = f_E_read (nI d)) (hmd : ∀ m, m < 1000 → md m = f_E_write (nI m)) : ∀ k, k < 10 → Mod (FF k) (nI k) sp md
  | 0, _ => mod_B (by decide) (by decide) (by decide) (by decide) (by decide) (by decide +kernel) (by decide +kernel) (by decide +kernel) (by decide +kernel) (by decide +kernel) (by decide +kernel) (by decide +kernel) (by decide +kernel) (by decide) sp md
  | 1, _ => mod_B (by decide) (by decide) (by decide) (by decide) (by decide) (by decide +kernel) (by decide +kernel) (by decide +kernel) (by decide +kernel) (by decide +kernel) (by decide +kernel) (by decide +kernel) (by decide +kernel) (by decide) sp md
  | 2, _ => mod_B (by decide) (by decide) (by decide) (by decide) (by decide) (by decide +kernel) (by decide +kernel) (by decide +kernel) (by decide +kernel) (by decide +kernel) (by decide +kernel) (by decide +kernel) (by decide +kernel) (by decide) sp md
  | 3, _ => mod_B (by decide) (by decide) (by decide) (by decide) (by decide) (by decide +kernel) (by decide +kernel) (by decide +kernel) (by decide +kernel) (by decide +kernel) (by decide +kernel) (by decide +kernel) (by decide +kernel) (by decide) sp md
  | 4, _ => mod_P (by decide) (by decide) (by decide) (by decide) (by decide) (by decide +kernel) (by decide +kernel) (by decide +kernel) (by decide +kernel) (by decide +kernel) (by decide +kernel) (by decide +kernel) (by decide +kernel) (by decide +kernel) (by decide +kernel) (by decide +kernel) (by decide +kernel) (by decide) sp md
  | 5, _ => mod_P (by decide) (by decide) (by decide) (by decide) (by decide) (by decide +kernel) (by decide +kernel) (by decide +kernel) (by decide +kernel) (by decide +kernel) (by decide +kernel) (by decide +kernel) (by decide +kernel) (by decide +kernel) (by decide +kernel) (by decide +kernel) (by decide +kernel) (by decide) sp md
  | 6, _ => mod_P (by decide) (by decide) (by decide) (by decide) (by decide) (by decide +kernel) (by decide +kernel) (by decide +kernel) (by decide +kernel) (by decide +kernel) (by decide +kernel) (by decide +kernel) (by decide +kernel) (by decide +kernel) (by decide +kernel) (by decide +kernel) (by decide +kernel) (by decide) sp md
  | 7, _ => mod_T (by decide) (by decide) (by decide) (by decide) (by decide) (by decide +kernel) (by decide +kernel) (by decide +kernel) (by decide +kernel) (by decide +kernel) (by decide +kernel) (by decide +kernel) (by decide +kernel) (by decide +kernel) (by decide +kernel) (by decide) hsp hmd
  | 8, _ => mod_T (by decide) (by decide) (by decide) (by decide) (by decide) (by decide +kernel) (by decide +kernel) (by decide +kernel) (by decide +kernel) (by decide +kernel) (by decide +kernel) (by decide +kernel) (by decide +kernel) (by decide +kernel) (by decide +kernel) (by decide) hsp hmd
  | 9, _ => mod_T (by decide) (by decide) (by decide) (by decide) (by decide) (by decide +kernel) (by decide +kernel) (by decide +kernel) (by decide +kernel) (by decide +kernel) (by decide +kernel) (by decide +kernel) (by decide +kernel) (by decide +kernel) (by decide +kernel) (by decide) hsp hmd

