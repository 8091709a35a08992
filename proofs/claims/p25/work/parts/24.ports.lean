theorem s_at0 (l : Launch) {D : DD} {B z : Nat} {h : HF} {a : Nat} {σ : St} {i : Int32} : CT l yX5_at cX5_at 2 (some .int) 0 0 [.ref (a + 1), .int i] D B z (hput D h a σ) (some (.int (oAt 0 4 σ i))) 0 0 (hput D h a σ) := c_X5_at l (by decide) (hput_k 1 (by decide)) (hput_k 2 (by decide))
theorem s_put0 (l : Launch) {D : DD} {B z : Nat} {h : HF} {a : Nat} {σ : St} {i v : Int32} : CT l yX5_put cX5_put 3 none 0 0 [.ref (a + 1), .int i, .int v] D B z (hput D h a σ) none 0 0 (hput D h a (oPut 0 4 σ i v)) := by
  have w := c_X5_put l (D := D) (B := B) (z := z) (h := hput D h a σ) (r := a + 1) (c := a + 2) (n := 4) (f := σ.1 0) (i := i) (v := v) (by decide) (hput_k 1 (by decide)) (hput_k 2 (by decide))
  rw [hput_r0] at w
  exact w
theorem s_add0 (l : Launch) {D : DD} {B z : Nat} {h : HF} {a : Nat} {σ : St} {i v : Int32} : CT l yX5_add cX5_add 3 none 0 0 [.ref (a + 1), .int i, .int v] D B z (hput D h a σ) none 0 0 (hput D h a (oAdd 0 4 σ i v)) := by
  have w := c_X5_add l (D := D) (B := B) (z := z) (h := hput D h a σ) (r := a + 1) (c := a + 2) (n := 4) (f := σ.1 0) (i := i) (v := v) (by decide) (hput_k 1 (by decide)) (hput_k 2 (by decide))
  rw [hput_r0] at w
  exact w
theorem s_fill0 (l : Launch) {D : DD} {B z : Nat} {h : HF} {a : Nat} {σ : St} {i k v : Int32} : CT l yX5_fill cX5_fill 4 none 2 46 [.ref (a + 1), .int i, .int k, .int v] D B z (hput D h a σ) none 0 0 (hput D h a (oFill 0 4 σ i k v)) := by
  have w := c_X5_fill l (D := D) (B := B) (z := z) (h := hput D h a σ) (r := a + 1) (c := a + 2) (n := 4) (f := σ.1 0) (i := i) (k := k) (v := v) (by decide) (hput_k 1 (by decide)) (hput_k 2 (by decide))
  rw [hput_r0] at w
  exact w
theorem s_slide0 (l : Launch) {D : DD} {B z : Nat} {h : HF} {a : Nat} {σ : St} {i j k : Int32} : CT l yX5_slide cX5_slide 4 none 1 22 [.ref (a + 1), .int i, .int j, .int k] D B z (hput D h a σ) none 0 0 (hput D h a (oSlide 0 4 σ i j k)) := by
  have w := c_X5_slide l (D := D) (B := B) (z := z) (h := hput D h a σ) (r := a + 1) (c := a + 2) (n := 4) (f := σ.1 0) (i := i) (j := j) (k := k) (by decide) (hput_k 1 (by decide)) (hput_k 2 (by decide))
  rw [hput_r0] at w
  exact w
theorem s_at1 (l : Launch) {D : DD} {B z : Nat} {h : HF} {a : Nat} {σ : St} {i : Int32} : CT l yX5_at cX5_at 2 (some .int) 0 0 [.ref (a + 4), .int i] D B z (hput D h a σ) (some (.int (oAt 1 8 σ i))) 0 0 (hput D h a σ) := c_X5_at l (by decide) (hput_k 4 (by decide)) (hput_k 5 (by decide))
theorem s_put1 (l : Launch) {D : DD} {B z : Nat} {h : HF} {a : Nat} {σ : St} {i v : Int32} : CT l yX5_put cX5_put 3 none 0 0 [.ref (a + 4), .int i, .int v] D B z (hput D h a σ) none 0 0 (hput D h a (oPut 1 8 σ i v)) := by
  have w := c_X5_put l (D := D) (B := B) (z := z) (h := hput D h a σ) (r := a + 4) (c := a + 5) (n := 8) (f := σ.1 1) (i := i) (v := v) (by decide) (hput_k 4 (by decide)) (hput_k 5 (by decide))
  rw [hput_r1] at w
  exact w
theorem s_add1 (l : Launch) {D : DD} {B z : Nat} {h : HF} {a : Nat} {σ : St} {i v : Int32} : CT l yX5_add cX5_add 3 none 0 0 [.ref (a + 4), .int i, .int v] D B z (hput D h a σ) none 0 0 (hput D h a (oAdd 1 8 σ i v)) := by
  have w := c_X5_add l (D := D) (B := B) (z := z) (h := hput D h a σ) (r := a + 4) (c := a + 5) (n := 8) (f := σ.1 1) (i := i) (v := v) (by decide) (hput_k 4 (by decide)) (hput_k 5 (by decide))
  rw [hput_r1] at w
  exact w
theorem s_fill1 (l : Launch) {D : DD} {B z : Nat} {h : HF} {a : Nat} {σ : St} {i k v : Int32} : CT l yX5_fill cX5_fill 4 none 2 46 [.ref (a + 4), .int i, .int k, .int v] D B z (hput D h a σ) none 0 0 (hput D h a (oFill 1 8 σ i k v)) := by
  have w := c_X5_fill l (D := D) (B := B) (z := z) (h := hput D h a σ) (r := a + 4) (c := a + 5) (n := 8) (f := σ.1 1) (i := i) (k := k) (v := v) (by decide) (hput_k 4 (by decide)) (hput_k 5 (by decide))
  rw [hput_r1] at w
  exact w
theorem s_slide1 (l : Launch) {D : DD} {B z : Nat} {h : HF} {a : Nat} {σ : St} {i j k : Int32} : CT l yX5_slide cX5_slide 4 none 1 22 [.ref (a + 4), .int i, .int j, .int k] D B z (hput D h a σ) none 0 0 (hput D h a (oSlide 1 8 σ i j k)) := by
  have w := c_X5_slide l (D := D) (B := B) (z := z) (h := hput D h a σ) (r := a + 4) (c := a + 5) (n := 8) (f := σ.1 1) (i := i) (j := j) (k := k) (by decide) (hput_k 4 (by decide)) (hput_k 5 (by decide))
  rw [hput_r1] at w
  exact w
theorem s_at2 (l : Launch) {D : DD} {B z : Nat} {h : HF} {a : Nat} {σ : St} {i : Int32} : CT l yX5_at cX5_at 2 (some .int) 0 0 [.ref (a + 6), .int i] D B z (hput D h a σ) (some (.int (oAt 2 8 σ i))) 0 0 (hput D h a σ) := c_X5_at l (by decide) (hput_k 6 (by decide)) (hput_k 7 (by decide))
theorem s_put2 (l : Launch) {D : DD} {B z : Nat} {h : HF} {a : Nat} {σ : St} {i v : Int32} : CT l yX5_put cX5_put 3 none 0 0 [.ref (a + 6), .int i, .int v] D B z (hput D h a σ) none 0 0 (hput D h a (oPut 2 8 σ i v)) := by
  have w := c_X5_put l (D := D) (B := B) (z := z) (h := hput D h a σ) (r := a + 6) (c := a + 7) (n := 8) (f := σ.1 2) (i := i) (v := v) (by decide) (hput_k 6 (by decide)) (hput_k 7 (by decide))
  rw [hput_r2] at w
  exact w
theorem s_add2 (l : Launch) {D : DD} {B z : Nat} {h : HF} {a : Nat} {σ : St} {i v : Int32} : CT l yX5_add cX5_add 3 none 0 0 [.ref (a + 6), .int i, .int v] D B z (hput D h a σ) none 0 0 (hput D h a (oAdd 2 8 σ i v)) := by
  have w := c_X5_add l (D := D) (B := B) (z := z) (h := hput D h a σ) (r := a + 6) (c := a + 7) (n := 8) (f := σ.1 2) (i := i) (v := v) (by decide) (hput_k 6 (by decide)) (hput_k 7 (by decide))
  rw [hput_r2] at w
  exact w
theorem s_fill2 (l : Launch) {D : DD} {B z : Nat} {h : HF} {a : Nat} {σ : St} {i k v : Int32} : CT l yX5_fill cX5_fill 4 none 2 46 [.ref (a + 6), .int i, .int k, .int v] D B z (hput D h a σ) none 0 0 (hput D h a (oFill 2 8 σ i k v)) := by
  have w := c_X5_fill l (D := D) (B := B) (z := z) (h := hput D h a σ) (r := a + 6) (c := a + 7) (n := 8) (f := σ.1 2) (i := i) (k := k) (v := v) (by decide) (hput_k 6 (by decide)) (hput_k 7 (by decide))
  rw [hput_r2] at w
  exact w
theorem s_slide2 (l : Launch) {D : DD} {B z : Nat} {h : HF} {a : Nat} {σ : St} {i j k : Int32} : CT l yX5_slide cX5_slide 4 none 1 22 [.ref (a + 6), .int i, .int j, .int k] D B z (hput D h a σ) none 0 0 (hput D h a (oSlide 2 8 σ i j k)) := by
  have w := c_X5_slide l (D := D) (B := B) (z := z) (h := hput D h a σ) (r := a + 6) (c := a + 7) (n := 8) (f := σ.1 2) (i := i) (j := j) (k := k) (by decide) (hput_k 6 (by decide)) (hput_k 7 (by decide))
  rw [hput_r2] at w
  exact w
theorem s_at3 (l : Launch) {D : DD} {B z : Nat} {h : HF} {a : Nat} {σ : St} {i : Int32} : CT l yX5_at cX5_at 2 (some .int) 0 0 [.ref (a + 8), .int i] D B z (hput D h a σ) (some (.int (oAt 3 8 σ i))) 0 0 (hput D h a σ) := c_X5_at l (by decide) (hput_k 8 (by decide)) (hput_k 9 (by decide))
theorem s_put3 (l : Launch) {D : DD} {B z : Nat} {h : HF} {a : Nat} {σ : St} {i v : Int32} : CT l yX5_put cX5_put 3 none 0 0 [.ref (a + 8), .int i, .int v] D B z (hput D h a σ) none 0 0 (hput D h a (oPut 3 8 σ i v)) := by
  have w := c_X5_put l (D := D) (B := B) (z := z) (h := hput D h a σ) (r := a + 8) (c := a + 9) (n := 8) (f := σ.1 3) (i := i) (v := v) (by decide) (hput_k 8 (by decide)) (hput_k 9 (by decide))
  rw [hput_r3] at w
  exact w
theorem s_add3 (l : Launch) {D : DD} {B z : Nat} {h : HF} {a : Nat} {σ : St} {i v : Int32} : CT l yX5_add cX5_add 3 none 0 0 [.ref (a + 8), .int i, .int v] D B z (hput D h a σ) none 0 0 (hput D h a (oAdd 3 8 σ i v)) := by
  have w := c_X5_add l (D := D) (B := B) (z := z) (h := hput D h a σ) (r := a + 8) (c := a + 9) (n := 8) (f := σ.1 3) (i := i) (v := v) (by decide) (hput_k 8 (by decide)) (hput_k 9 (by decide))
  rw [hput_r3] at w
  exact w
theorem s_fill3 (l : Launch) {D : DD} {B z : Nat} {h : HF} {a : Nat} {σ : St} {i k v : Int32} : CT l yX5_fill cX5_fill 4 none 2 46 [.ref (a + 8), .int i, .int k, .int v] D B z (hput D h a σ) none 0 0 (hput D h a (oFill 3 8 σ i k v)) := by
  have w := c_X5_fill l (D := D) (B := B) (z := z) (h := hput D h a σ) (r := a + 8) (c := a + 9) (n := 8) (f := σ.1 3) (i := i) (k := k) (v := v) (by decide) (hput_k 8 (by decide)) (hput_k 9 (by decide))
  rw [hput_r3] at w
  exact w
theorem s_slide3 (l : Launch) {D : DD} {B z : Nat} {h : HF} {a : Nat} {σ : St} {i j k : Int32} : CT l yX5_slide cX5_slide 4 none 1 22 [.ref (a + 8), .int i, .int j, .int k] D B z (hput D h a σ) none 0 0 (hput D h a (oSlide 3 8 σ i j k)) := by
  have w := c_X5_slide l (D := D) (B := B) (z := z) (h := hput D h a σ) (r := a + 8) (c := a + 9) (n := 8) (f := σ.1 3) (i := i) (j := j) (k := k) (by decide) (hput_k 8 (by decide)) (hput_k 9 (by decide))
  rw [hput_r3] at w
  exact w
theorem s_at4 (l : Launch) {D : DD} {B z : Nat} {h : HF} {a : Nat} {σ : St} {i : Int32} : CT l yX5_at cX5_at 2 (some .int) 0 0 [.ref (a + 10), .int i] D B z (hput D h a σ) (some (.int (oAt 4 8 σ i))) 0 0 (hput D h a σ) := c_X5_at l (by decide) (hput_k 10 (by decide)) (hput_k 11 (by decide))
theorem s_put4 (l : Launch) {D : DD} {B z : Nat} {h : HF} {a : Nat} {σ : St} {i v : Int32} : CT l yX5_put cX5_put 3 none 0 0 [.ref (a + 10), .int i, .int v] D B z (hput D h a σ) none 0 0 (hput D h a (oPut 4 8 σ i v)) := by
  have w := c_X5_put l (D := D) (B := B) (z := z) (h := hput D h a σ) (r := a + 10) (c := a + 11) (n := 8) (f := σ.1 4) (i := i) (v := v) (by decide) (hput_k 10 (by decide)) (hput_k 11 (by decide))
  rw [hput_r4] at w
  exact w
theorem s_add4 (l : Launch) {D : DD} {B z : Nat} {h : HF} {a : Nat} {σ : St} {i v : Int32} : CT l yX5_add cX5_add 3 none 0 0 [.ref (a + 10), .int i, .int v] D B z (hput D h a σ) none 0 0 (hput D h a (oAdd 4 8 σ i v)) := by
  have w := c_X5_add l (D := D) (B := B) (z := z) (h := hput D h a σ) (r := a + 10) (c := a + 11) (n := 8) (f := σ.1 4) (i := i) (v := v) (by decide) (hput_k 10 (by decide)) (hput_k 11 (by decide))
  rw [hput_r4] at w
  exact w
theorem s_fill4 (l : Launch) {D : DD} {B z : Nat} {h : HF} {a : Nat} {σ : St} {i k v : Int32} : CT l yX5_fill cX5_fill 4 none 2 46 [.ref (a + 10), .int i, .int k, .int v] D B z (hput D h a σ) none 0 0 (hput D h a (oFill 4 8 σ i k v)) := by
  have w := c_X5_fill l (D := D) (B := B) (z := z) (h := hput D h a σ) (r := a + 10) (c := a + 11) (n := 8) (f := σ.1 4) (i := i) (k := k) (v := v) (by decide) (hput_k 10 (by decide)) (hput_k 11 (by decide))
  rw [hput_r4] at w
  exact w
theorem s_slide4 (l : Launch) {D : DD} {B z : Nat} {h : HF} {a : Nat} {σ : St} {i j k : Int32} : CT l yX5_slide cX5_slide 4 none 1 22 [.ref (a + 10), .int i, .int j, .int k] D B z (hput D h a σ) none 0 0 (hput D h a (oSlide 4 8 σ i j k)) := by
  have w := c_X5_slide l (D := D) (B := B) (z := z) (h := hput D h a σ) (r := a + 10) (c := a + 11) (n := 8) (f := σ.1 4) (i := i) (j := j) (k := k) (by decide) (hput_k 10 (by decide)) (hput_k 11 (by decide))
  rw [hput_r4] at w
  exact w
theorem s_at5 (l : Launch) {D : DD} {B z : Nat} {h : HF} {a : Nat} {σ : St} {i : Int32} : CT l yX5_at cX5_at 2 (some .int) 0 0 [.ref (a + 12), .int i] D B z (hput D h a σ) (some (.int (oAt 5 8 σ i))) 0 0 (hput D h a σ) := c_X5_at l (by decide) (hput_k 12 (by decide)) (hput_k 13 (by decide))
theorem s_put5 (l : Launch) {D : DD} {B z : Nat} {h : HF} {a : Nat} {σ : St} {i v : Int32} : CT l yX5_put cX5_put 3 none 0 0 [.ref (a + 12), .int i, .int v] D B z (hput D h a σ) none 0 0 (hput D h a (oPut 5 8 σ i v)) := by
  have w := c_X5_put l (D := D) (B := B) (z := z) (h := hput D h a σ) (r := a + 12) (c := a + 13) (n := 8) (f := σ.1 5) (i := i) (v := v) (by decide) (hput_k 12 (by decide)) (hput_k 13 (by decide))
  rw [hput_r5] at w
  exact w
theorem s_add5 (l : Launch) {D : DD} {B z : Nat} {h : HF} {a : Nat} {σ : St} {i v : Int32} : CT l yX5_add cX5_add 3 none 0 0 [.ref (a + 12), .int i, .int v] D B z (hput D h a σ) none 0 0 (hput D h a (oAdd 5 8 σ i v)) := by
  have w := c_X5_add l (D := D) (B := B) (z := z) (h := hput D h a σ) (r := a + 12) (c := a + 13) (n := 8) (f := σ.1 5) (i := i) (v := v) (by decide) (hput_k 12 (by decide)) (hput_k 13 (by decide))
  rw [hput_r5] at w
  exact w
theorem s_fill5 (l : Launch) {D : DD} {B z : Nat} {h : HF} {a : Nat} {σ : St} {i k v : Int32} : CT l yX5_fill cX5_fill 4 none 2 46 [.ref (a + 12), .int i, .int k, .int v] D B z (hput D h a σ) none 0 0 (hput D h a (oFill 5 8 σ i k v)) := by
  have w := c_X5_fill l (D := D) (B := B) (z := z) (h := hput D h a σ) (r := a + 12) (c := a + 13) (n := 8) (f := σ.1 5) (i := i) (k := k) (v := v) (by decide) (hput_k 12 (by decide)) (hput_k 13 (by decide))
  rw [hput_r5] at w
  exact w
theorem s_slide5 (l : Launch) {D : DD} {B z : Nat} {h : HF} {a : Nat} {σ : St} {i j k : Int32} : CT l yX5_slide cX5_slide 4 none 1 22 [.ref (a + 12), .int i, .int j, .int k] D B z (hput D h a σ) none 0 0 (hput D h a (oSlide 5 8 σ i j k)) := by
  have w := c_X5_slide l (D := D) (B := B) (z := z) (h := hput D h a σ) (r := a + 12) (c := a + 13) (n := 8) (f := σ.1 5) (i := i) (j := j) (k := k) (by decide) (hput_k 12 (by decide)) (hput_k 13 (by decide))
  rw [hput_r5] at w
  exact w
theorem s_at6 (l : Launch) {D : DD} {B z : Nat} {h : HF} {a : Nat} {σ : St} {i : Int32} : CT l yX5_at cX5_at 2 (some .int) 0 0 [.ref (a + 14), .int i] D B z (hput D h a σ) (some (.int (oAt 6 88 σ i))) 0 0 (hput D h a σ) := c_X5_at l (by decide) (hput_k 14 (by decide)) (hput_k 15 (by decide))
theorem s_put6 (l : Launch) {D : DD} {B z : Nat} {h : HF} {a : Nat} {σ : St} {i v : Int32} : CT l yX5_put cX5_put 3 none 0 0 [.ref (a + 14), .int i, .int v] D B z (hput D h a σ) none 0 0 (hput D h a (oPut 6 88 σ i v)) := by
  have w := c_X5_put l (D := D) (B := B) (z := z) (h := hput D h a σ) (r := a + 14) (c := a + 15) (n := 88) (f := σ.1 6) (i := i) (v := v) (by decide) (hput_k 14 (by decide)) (hput_k 15 (by decide))
  rw [hput_r6] at w
  exact w
theorem s_add6 (l : Launch) {D : DD} {B z : Nat} {h : HF} {a : Nat} {σ : St} {i v : Int32} : CT l yX5_add cX5_add 3 none 0 0 [.ref (a + 14), .int i, .int v] D B z (hput D h a σ) none 0 0 (hput D h a (oAdd 6 88 σ i v)) := by
  have w := c_X5_add l (D := D) (B := B) (z := z) (h := hput D h a σ) (r := a + 14) (c := a + 15) (n := 88) (f := σ.1 6) (i := i) (v := v) (by decide) (hput_k 14 (by decide)) (hput_k 15 (by decide))
  rw [hput_r6] at w
  exact w
theorem s_fill6 (l : Launch) {D : DD} {B z : Nat} {h : HF} {a : Nat} {σ : St} {i k v : Int32} : CT l yX5_fill cX5_fill 4 none 2 46 [.ref (a + 14), .int i, .int k, .int v] D B z (hput D h a σ) none 0 0 (hput D h a (oFill 6 88 σ i k v)) := by
  have w := c_X5_fill l (D := D) (B := B) (z := z) (h := hput D h a σ) (r := a + 14) (c := a + 15) (n := 88) (f := σ.1 6) (i := i) (k := k) (v := v) (by decide) (hput_k 14 (by decide)) (hput_k 15 (by decide))
  rw [hput_r6] at w
  exact w
theorem s_slide6 (l : Launch) {D : DD} {B z : Nat} {h : HF} {a : Nat} {σ : St} {i j k : Int32} : CT l yX5_slide cX5_slide 4 none 1 22 [.ref (a + 14), .int i, .int j, .int k] D B z (hput D h a σ) none 0 0 (hput D h a (oSlide 6 88 σ i j k)) := by
  have w := c_X5_slide l (D := D) (B := B) (z := z) (h := hput D h a σ) (r := a + 14) (c := a + 15) (n := 88) (f := σ.1 6) (i := i) (j := j) (k := k) (by decide) (hput_k 14 (by decide)) (hput_k 15 (by decide))
  rw [hput_r6] at w
  exact w
theorem s_at7 (l : Launch) {D : DD} {B z : Nat} {h : HF} {a : Nat} {σ : St} {i : Int32} : CT l yX5_at cX5_at 2 (some .int) 0 0 [.ref (a + 17), .int i] D B z (hput D h a σ) (some (.int (oAt 7 8 σ i))) 0 0 (hput D h a σ) := c_X5_at l (by decide) (hput_k 17 (by decide)) (hput_k 18 (by decide))
theorem s_sum7 (l : Launch) {D : DD} {B z : Nat} {h : HF} {a : Nat} {σ : St} : CT l yX5_sum cX5_sum 6 (some .int) 0 0 [.ref (a + 17)] D B z (hput D h a σ) (some (.int (rSum (σ.1 7) 8))) 0 0 (hput D h a σ) := c_X5_sum l (hput_k 17 (by decide)) (hput_k 18 (by decide))
theorem s_put7 (l : Launch) {D : DD} {B z : Nat} {h : HF} {a : Nat} {σ : St} {i v : Int32} : CT l yX5_put cX5_put 3 none 0 0 [.ref (a + 17), .int i, .int v] D B z (hput D h a σ) none 0 0 (hput D h a (oPut 7 8 σ i v)) := by
  have w := c_X5_put l (D := D) (B := B) (z := z) (h := hput D h a σ) (r := a + 17) (c := a + 18) (n := 8) (f := σ.1 7) (i := i) (v := v) (by decide) (hput_k 17 (by decide)) (hput_k 18 (by decide))
  rw [hput_r7] at w
  exact w
theorem s_add7 (l : Launch) {D : DD} {B z : Nat} {h : HF} {a : Nat} {σ : St} {i v : Int32} : CT l yX5_add cX5_add 3 none 0 0 [.ref (a + 17), .int i, .int v] D B z (hput D h a σ) none 0 0 (hput D h a (oAdd 7 8 σ i v)) := by
  have w := c_X5_add l (D := D) (B := B) (z := z) (h := hput D h a σ) (r := a + 17) (c := a + 18) (n := 8) (f := σ.1 7) (i := i) (v := v) (by decide) (hput_k 17 (by decide)) (hput_k 18 (by decide))
  rw [hput_r7] at w
  exact w
theorem s_fill7 (l : Launch) {D : DD} {B z : Nat} {h : HF} {a : Nat} {σ : St} {i k v : Int32} : CT l yX5_fill cX5_fill 4 none 2 46 [.ref (a + 17), .int i, .int k, .int v] D B z (hput D h a σ) none 0 0 (hput D h a (oFill 7 8 σ i k v)) := by
  have w := c_X5_fill l (D := D) (B := B) (z := z) (h := hput D h a σ) (r := a + 17) (c := a + 18) (n := 8) (f := σ.1 7) (i := i) (k := k) (v := v) (by decide) (hput_k 17 (by decide)) (hput_k 18 (by decide))
  rw [hput_r7] at w
  exact w
theorem s_slide7 (l : Launch) {D : DD} {B z : Nat} {h : HF} {a : Nat} {σ : St} {i j k : Int32} : CT l yX5_slide cX5_slide 4 none 1 22 [.ref (a + 17), .int i, .int j, .int k] D B z (hput D h a σ) none 0 0 (hput D h a (oSlide 7 8 σ i j k)) := by
  have w := c_X5_slide l (D := D) (B := B) (z := z) (h := hput D h a σ) (r := a + 17) (c := a + 18) (n := 8) (f := σ.1 7) (i := i) (j := j) (k := k) (by decide) (hput_k 17 (by decide)) (hput_k 18 (by decide))
  rw [hput_r7] at w
  exact w
theorem s_at8 (l : Launch) {D : DD} {B z : Nat} {h : HF} {a : Nat} {σ : St} {i : Int32} : CT l yX5_at cX5_at 2 (some .int) 0 0 [.ref (a + 19), .int i] D B z (hput D h a σ) (some (.int (oAt 8 384 σ i))) 0 0 (hput D h a σ) := c_X5_at l (by decide) (hput_k 19 (by decide)) (hput_k 20 (by decide))
theorem s_put8 (l : Launch) {D : DD} {B z : Nat} {h : HF} {a : Nat} {σ : St} {i v : Int32} : CT l yX5_put cX5_put 3 none 0 0 [.ref (a + 19), .int i, .int v] D B z (hput D h a σ) none 0 0 (hput D h a (oPut 8 384 σ i v)) := by
  have w := c_X5_put l (D := D) (B := B) (z := z) (h := hput D h a σ) (r := a + 19) (c := a + 20) (n := 384) (f := σ.1 8) (i := i) (v := v) (by decide) (hput_k 19 (by decide)) (hput_k 20 (by decide))
  rw [hput_r8] at w
  exact w
theorem s_add8 (l : Launch) {D : DD} {B z : Nat} {h : HF} {a : Nat} {σ : St} {i v : Int32} : CT l yX5_add cX5_add 3 none 0 0 [.ref (a + 19), .int i, .int v] D B z (hput D h a σ) none 0 0 (hput D h a (oAdd 8 384 σ i v)) := by
  have w := c_X5_add l (D := D) (B := B) (z := z) (h := hput D h a σ) (r := a + 19) (c := a + 20) (n := 384) (f := σ.1 8) (i := i) (v := v) (by decide) (hput_k 19 (by decide)) (hput_k 20 (by decide))
  rw [hput_r8] at w
  exact w
theorem s_fill8 (l : Launch) {D : DD} {B z : Nat} {h : HF} {a : Nat} {σ : St} {i k v : Int32} : CT l yX5_fill cX5_fill 4 none 2 46 [.ref (a + 19), .int i, .int k, .int v] D B z (hput D h a σ) none 0 0 (hput D h a (oFill 8 384 σ i k v)) := by
  have w := c_X5_fill l (D := D) (B := B) (z := z) (h := hput D h a σ) (r := a + 19) (c := a + 20) (n := 384) (f := σ.1 8) (i := i) (k := k) (v := v) (by decide) (hput_k 19 (by decide)) (hput_k 20 (by decide))
  rw [hput_r8] at w
  exact w
theorem s_slide8 (l : Launch) {D : DD} {B z : Nat} {h : HF} {a : Nat} {σ : St} {i j k : Int32} : CT l yX5_slide cX5_slide 4 none 1 22 [.ref (a + 19), .int i, .int j, .int k] D B z (hput D h a σ) none 0 0 (hput D h a (oSlide 8 384 σ i j k)) := by
  have w := c_X5_slide l (D := D) (B := B) (z := z) (h := hput D h a σ) (r := a + 19) (c := a + 20) (n := 384) (f := σ.1 8) (i := i) (j := j) (k := k) (by decide) (hput_k 19 (by decide)) (hput_k 20 (by decide))
  rw [hput_r8] at w
  exact w
theorem s_at9 (l : Launch) {D : DD} {B z : Nat} {h : HF} {a : Nat} {σ : St} {i : Int32} : CT l yX5_at cX5_at 2 (some .int) 0 0 [.ref (a + 22), .int i] D B z (hput D h a σ) (some (.int (oAt 9 100 σ i))) 0 0 (hput D h a σ) := c_X5_at l (by decide) (hput_k 22 (by decide)) (hput_k 23 (by decide))
theorem s_put9 (l : Launch) {D : DD} {B z : Nat} {h : HF} {a : Nat} {σ : St} {i v : Int32} : CT l yX5_put cX5_put 3 none 0 0 [.ref (a + 22), .int i, .int v] D B z (hput D h a σ) none 0 0 (hput D h a (oPut 9 100 σ i v)) := by
  have w := c_X5_put l (D := D) (B := B) (z := z) (h := hput D h a σ) (r := a + 22) (c := a + 23) (n := 100) (f := σ.1 9) (i := i) (v := v) (by decide) (hput_k 22 (by decide)) (hput_k 23 (by decide))
  rw [hput_r9] at w
  exact w
theorem s_add9 (l : Launch) {D : DD} {B z : Nat} {h : HF} {a : Nat} {σ : St} {i v : Int32} : CT l yX5_add cX5_add 3 none 0 0 [.ref (a + 22), .int i, .int v] D B z (hput D h a σ) none 0 0 (hput D h a (oAdd 9 100 σ i v)) := by
  have w := c_X5_add l (D := D) (B := B) (z := z) (h := hput D h a σ) (r := a + 22) (c := a + 23) (n := 100) (f := σ.1 9) (i := i) (v := v) (by decide) (hput_k 22 (by decide)) (hput_k 23 (by decide))
  rw [hput_r9] at w
  exact w
theorem s_fill9 (l : Launch) {D : DD} {B z : Nat} {h : HF} {a : Nat} {σ : St} {i k v : Int32} : CT l yX5_fill cX5_fill 4 none 2 46 [.ref (a + 22), .int i, .int k, .int v] D B z (hput D h a σ) none 0 0 (hput D h a (oFill 9 100 σ i k v)) := by
  have w := c_X5_fill l (D := D) (B := B) (z := z) (h := hput D h a σ) (r := a + 22) (c := a + 23) (n := 100) (f := σ.1 9) (i := i) (k := k) (v := v) (by decide) (hput_k 22 (by decide)) (hput_k 23 (by decide))
  rw [hput_r9] at w
  exact w
theorem s_slide9 (l : Launch) {D : DD} {B z : Nat} {h : HF} {a : Nat} {σ : St} {i j k : Int32} : CT l yX5_slide cX5_slide 4 none 1 22 [.ref (a + 22), .int i, .int j, .int k] D B z (hput D h a σ) none 0 0 (hput D h a (oSlide 9 100 σ i j k)) := by
  have w := c_X5_slide l (D := D) (B := B) (z := z) (h := hput D h a σ) (r := a + 22) (c := a + 23) (n := 100) (f := σ.1 9) (i := i) (j := j) (k := k) (by decide) (hput_k 22 (by decide)) (hput_k 23 (by decide))
  rw [hput_r9] at w
  exact w
theorem s_at10 (l : Launch) {D : DD} {B z : Nat} {h : HF} {a : Nat} {σ : St} {i : Int32} : CT l yX5_at cX5_at 2 (some .int) 0 0 [.ref (a + 24), .int i] D B z (hput D h a σ) (some (.int (oAt 10 100 σ i))) 0 0 (hput D h a σ) := c_X5_at l (by decide) (hput_k 24 (by decide)) (hput_k 25 (by decide))
theorem s_put10 (l : Launch) {D : DD} {B z : Nat} {h : HF} {a : Nat} {σ : St} {i v : Int32} : CT l yX5_put cX5_put 3 none 0 0 [.ref (a + 24), .int i, .int v] D B z (hput D h a σ) none 0 0 (hput D h a (oPut 10 100 σ i v)) := by
  have w := c_X5_put l (D := D) (B := B) (z := z) (h := hput D h a σ) (r := a + 24) (c := a + 25) (n := 100) (f := σ.1 10) (i := i) (v := v) (by decide) (hput_k 24 (by decide)) (hput_k 25 (by decide))
  rw [hput_r10] at w
  exact w
theorem s_add10 (l : Launch) {D : DD} {B z : Nat} {h : HF} {a : Nat} {σ : St} {i v : Int32} : CT l yX5_add cX5_add 3 none 0 0 [.ref (a + 24), .int i, .int v] D B z (hput D h a σ) none 0 0 (hput D h a (oAdd 10 100 σ i v)) := by
  have w := c_X5_add l (D := D) (B := B) (z := z) (h := hput D h a σ) (r := a + 24) (c := a + 25) (n := 100) (f := σ.1 10) (i := i) (v := v) (by decide) (hput_k 24 (by decide)) (hput_k 25 (by decide))
  rw [hput_r10] at w
  exact w
theorem s_fill10 (l : Launch) {D : DD} {B z : Nat} {h : HF} {a : Nat} {σ : St} {i k v : Int32} : CT l yX5_fill cX5_fill 4 none 2 46 [.ref (a + 24), .int i, .int k, .int v] D B z (hput D h a σ) none 0 0 (hput D h a (oFill 10 100 σ i k v)) := by
  have w := c_X5_fill l (D := D) (B := B) (z := z) (h := hput D h a σ) (r := a + 24) (c := a + 25) (n := 100) (f := σ.1 10) (i := i) (k := k) (v := v) (by decide) (hput_k 24 (by decide)) (hput_k 25 (by decide))
  rw [hput_r10] at w
  exact w
theorem s_slide10 (l : Launch) {D : DD} {B z : Nat} {h : HF} {a : Nat} {σ : St} {i j k : Int32} : CT l yX5_slide cX5_slide 4 none 1 22 [.ref (a + 24), .int i, .int j, .int k] D B z (hput D h a σ) none 0 0 (hput D h a (oSlide 10 100 σ i j k)) := by
  have w := c_X5_slide l (D := D) (B := B) (z := z) (h := hput D h a σ) (r := a + 24) (c := a + 25) (n := 100) (f := σ.1 10) (i := i) (j := j) (k := k) (by decide) (hput_k 24 (by decide)) (hput_k 25 (by decide))
  rw [hput_r10] at w
  exact w
theorem s_at11 (l : Launch) {D : DD} {B z : Nat} {h : HF} {a : Nat} {σ : St} {i : Int32} : CT l yX5_at cX5_at 2 (some .int) 0 0 [.ref (a + 27), .int i] D B z (hput D h a σ) (some (.int (oAt 11 1000 σ i))) 0 0 (hput D h a σ) := c_X5_at l (by decide) (hput_k 27 (by decide)) (hput_k 28 (by decide))
theorem s_put11 (l : Launch) {D : DD} {B z : Nat} {h : HF} {a : Nat} {σ : St} {i v : Int32} : CT l yX5_put cX5_put 3 none 0 0 [.ref (a + 27), .int i, .int v] D B z (hput D h a σ) none 0 0 (hput D h a (oPut 11 1000 σ i v)) := by
  have w := c_X5_put l (D := D) (B := B) (z := z) (h := hput D h a σ) (r := a + 27) (c := a + 28) (n := 1000) (f := σ.1 11) (i := i) (v := v) (by decide) (hput_k 27 (by decide)) (hput_k 28 (by decide))
  rw [hput_r11] at w
  exact w
theorem s_add11 (l : Launch) {D : DD} {B z : Nat} {h : HF} {a : Nat} {σ : St} {i v : Int32} : CT l yX5_add cX5_add 3 none 0 0 [.ref (a + 27), .int i, .int v] D B z (hput D h a σ) none 0 0 (hput D h a (oAdd 11 1000 σ i v)) := by
  have w := c_X5_add l (D := D) (B := B) (z := z) (h := hput D h a σ) (r := a + 27) (c := a + 28) (n := 1000) (f := σ.1 11) (i := i) (v := v) (by decide) (hput_k 27 (by decide)) (hput_k 28 (by decide))
  rw [hput_r11] at w
  exact w
theorem s_fill11 (l : Launch) {D : DD} {B z : Nat} {h : HF} {a : Nat} {σ : St} {i k v : Int32} : CT l yX5_fill cX5_fill 4 none 2 46 [.ref (a + 27), .int i, .int k, .int v] D B z (hput D h a σ) none 0 0 (hput D h a (oFill 11 1000 σ i k v)) := by
  have w := c_X5_fill l (D := D) (B := B) (z := z) (h := hput D h a σ) (r := a + 27) (c := a + 28) (n := 1000) (f := σ.1 11) (i := i) (k := k) (v := v) (by decide) (hput_k 27 (by decide)) (hput_k 28 (by decide))
  rw [hput_r11] at w
  exact w
theorem s_slide11 (l : Launch) {D : DD} {B z : Nat} {h : HF} {a : Nat} {σ : St} {i j k : Int32} : CT l yX5_slide cX5_slide 4 none 1 22 [.ref (a + 27), .int i, .int j, .int k] D B z (hput D h a σ) none 0 0 (hput D h a (oSlide 11 1000 σ i j k)) := by
  have w := c_X5_slide l (D := D) (B := B) (z := z) (h := hput D h a σ) (r := a + 27) (c := a + 28) (n := 1000) (f := σ.1 11) (i := i) (j := j) (k := k) (by decide) (hput_k 27 (by decide)) (hput_k 28 (by decide))
  rw [hput_r11] at w
  exact w
set_option maxRecDepth 100000 in
set_option maxHeartbeats 8000000 in
theorem c_J6_bitCount_0f7a4 (l : Launch) {D : DD} {B z : Nat} {h : HF} {x : Int32} : CT l yJ6_bitCount_0f7a4 cJ6_bitCount_0f7a4 1 (some .int) 0 0 [.int x] D B z h (some (.int (bitC x))) 0 0 h := by
  refine CT.of (L := [(0, .int x)]) (by decide +kernel) (Nat.le_of_ble_eq_true rfl) rfl ?_
  intro P E S0 M0 AR BL ME CO X hr hnm
  refine j_iload_n X 0 dJ6_bitCount_0f7a4_0 rfl rfl ?_
  refine j_iload_n X 0 dJ6_bitCount_0f7a4_1 rfl rfl ?_
  refine j_iconst X (v := 1) dJ6_bitCount_0f7a4_2 (by decide) ?_
  refine j_iushr X dJ6_bitCount_0f7a4_3 ?_
  refine j_ldcw X kK_RJ6_265 dJ6_bitCount_0f7a4_4 ?_
  refine j_iand X dJ6_bitCount_0f7a4_7 ?_
  refine j_isub X dJ6_bitCount_0f7a4_8 ?_
  refine j_tops (fun v1 ev1 => ?_)
  refine j_istore_n X (L' := [(0, .int v1)]) dJ6_bitCount_0f7a4_9 rfl (by decide) rfl ?_
  refine j_iload_n X 0 dJ6_bitCount_0f7a4_10 rfl rfl ?_
  refine j_ldcw X kK_RJ6_266 dJ6_bitCount_0f7a4_11 ?_
  refine j_iand X dJ6_bitCount_0f7a4_14 ?_
  refine j_iload_n X 0 dJ6_bitCount_0f7a4_15 rfl rfl ?_
  refine j_iconst X (v := 2) dJ6_bitCount_0f7a4_16 (by decide) ?_
  refine j_iushr X dJ6_bitCount_0f7a4_17 ?_
  refine j_ldcw X kK_RJ6_266 dJ6_bitCount_0f7a4_18 ?_
  refine j_iand X dJ6_bitCount_0f7a4_21 ?_
  refine j_iadd X dJ6_bitCount_0f7a4_22 ?_
  refine j_tops (fun v2 ev2 => ?_)
  refine j_istore_n X (L' := [(0, .int v2)]) dJ6_bitCount_0f7a4_23 rfl (by decide) rfl ?_
  refine j_iload_n X 0 dJ6_bitCount_0f7a4_24 rfl rfl ?_
  refine j_iload_n X 0 dJ6_bitCount_0f7a4_25 rfl rfl ?_
  refine j_iconst X (v := 4) dJ6_bitCount_0f7a4_26 (by decide) ?_
  refine j_iushr X dJ6_bitCount_0f7a4_27 ?_
  refine j_iadd X dJ6_bitCount_0f7a4_28 ?_
  refine j_ldcw X kK_RJ6_267 dJ6_bitCount_0f7a4_29 ?_
  refine j_iand X dJ6_bitCount_0f7a4_32 ?_
  refine j_tops (fun v3 ev3 => ?_)
  refine j_istore_n X (L' := [(0, .int v3)]) dJ6_bitCount_0f7a4_33 rfl (by decide) rfl ?_
  refine j_iload_n X 0 dJ6_bitCount_0f7a4_34 rfl rfl ?_
  refine j_iload_n X 0 dJ6_bitCount_0f7a4_35 rfl rfl ?_
  refine j_bipush X (v := 8) dJ6_bitCount_0f7a4_36 (by decide) ?_
  refine j_iushr X dJ6_bitCount_0f7a4_38 ?_
  refine j_iadd X dJ6_bitCount_0f7a4_39 ?_
  refine j_tops (fun v4 ev4 => ?_)
  refine j_istore_n X (L' := [(0, .int v4)]) dJ6_bitCount_0f7a4_40 rfl (by decide) rfl ?_
  refine j_iload_n X 0 dJ6_bitCount_0f7a4_41 rfl rfl ?_
  refine j_iload_n X 0 dJ6_bitCount_0f7a4_42 rfl rfl ?_
  refine j_bipush X (v := 16) dJ6_bitCount_0f7a4_43 (by decide) ?_
  refine j_iushr X dJ6_bitCount_0f7a4_45 ?_
  refine j_iadd X dJ6_bitCount_0f7a4_46 ?_
  refine j_tops (fun v5 ev5 => ?_)
  refine j_istore_n X (L' := [(0, .int v5)]) dJ6_bitCount_0f7a4_47 rfl (by decide) rfl ?_
  refine j_iload_n X 0 dJ6_bitCount_0f7a4_48 rfl rfl ?_
  refine j_bipush X (v := 63) dJ6_bitCount_0f7a4_49 (by decide) ?_
  refine j_iand X dJ6_bitCount_0f7a4_51 ?_
  exact j_iret X hr rfl (by subst ev5 ev4 ev3 ev2 ev1; first | with_reducible rfl | (simp only [bitC]; done) | (simp only [bitC]; rfl) | rfl) rfl (by subst ev5 ev4 ev3 ev2 ev1; first | with_reducible rfl | (simp only [bitC]; done) | (simp only [bitC]; rfl) | rfl) dJ6_bitCount_0f7a4_52
set_option maxRecDepth 100000 in
set_option maxHeartbeats 8000000 in
theorem c_X4_cellOf (l : Launch) {D : DD} {B z : Nat} {h : HF} {p k : Int32} : CT l yX4_cellOf cX4_cellOf 2 (some .int) 0 0 [.int p, .int k] D B z h (some (.int (qCell p k))) 0 0 h := by
  refine CT.of (L := [(0, .int p), (1, .int k)]) (by decide +kernel) (Nat.le_of_ble_eq_true rfl) rfl ?_
  intro P E S0 M0 AR BL ME CO X hr hnm
  refine j_iload_n X 0 dX4_cellOf_0 rfl rfl ?_
  refine j_bipush X (v := 12) dX4_cellOf_1 (by decide) ?_
  refine j_imul X dX4_cellOf_3 ?_
  refine j_iload_n X 1 dX4_cellOf_4 rfl rfl ?_
  refine j_iadd X dX4_cellOf_5 ?_
  refine j_iconst X (v := 4) dX4_cellOf_6 (by decide) ?_
  refine j_imul X dX4_cellOf_7 ?_
  exact j_iret X hr rfl (by first | with_reducible rfl | (simp only [qCell]; done) | (simp only [qCell]; rfl) | rfl) rfl (by first | with_reducible rfl | (simp only [qCell]; done) | (simp only [qCell]; rfl) | rfl) dX4_cellOf_8
set_option maxRecDepth 100000 in
set_option maxHeartbeats 8000000 in
theorem c_X6_accountOf (l : Launch) {D : DD} {B z : Nat} {h : HF} {t : Int32} : CT l yX6_accountOf cX6_accountOf 1 (some .int) 0 0 [.int t] D B z h (some (.int (sAcc t))) 0 0 h := by
  refine CT.of (L := [(0, .int t)]) (by decide +kernel) (Nat.le_of_ble_eq_true rfl) rfl ?_
  intro P E S0 M0 AR BL ME CO X hr hnm
  refine j_iload_n X 0 dX6_accountOf_0 rfl rfl ?_
  refine j_bipush X (v := 6) dX6_accountOf_1 (by decide) ?_
  refine j_icmp_ne X (tgt := 9) dX6_accountOf_3 (by decide) (fun c_3 => ?_) (fun c_3 => ?_)
  · refine j_iload_n X 0 dX6_accountOf_9 rfl rfl ?_
    refine j_iconst X (v := 4) dX6_accountOf_10 (by decide) ?_
    refine j_icmp_eq X (tgt := 19) dX6_accountOf_11 (by decide) (fun c_11 => ?_) (fun c_11 => ?_)
    · refine j_iconst X (v := 5) dX6_accountOf_19 (by decide) ?_
      refine j_goto X (tgt := 26) dX6_accountOf_20 (by decide) ?_
      exact j_iret X hr rfl (by first | with_reducible rfl | (simp only [sAcc, if_neg c_3, if_pos c_11]; done) | (simp only [sAcc, if_neg c_3, if_pos c_11]; rfl) | rfl) rfl (by first | with_reducible rfl | (simp only [sAcc, if_neg c_3, if_pos c_11]; done) | (simp only [sAcc, if_neg c_3, if_pos c_11]; rfl) | rfl) dX6_accountOf_26
    · refine j_iload_n X 0 dX6_accountOf_14 rfl rfl ?_
      refine j_iconst X (v := 5) dX6_accountOf_15 (by decide) ?_
      refine j_icmp_ne X (tgt := 23) dX6_accountOf_16 (by decide) (fun c_16 => ?_) (fun c_16 => ?_)
      · refine j_iload_n X 0 dX6_accountOf_23 rfl rfl ?_
        refine j_iconst X (v := 1) dX6_accountOf_24 (by decide) ?_
        refine j_iadd X dX6_accountOf_25 ?_
        exact j_iret X hr rfl (by first | with_reducible rfl | (simp only [sAcc, if_neg c_3, if_neg c_11, if_neg c_16]; done) | (simp only [sAcc, if_neg c_3, if_neg c_11, if_neg c_16]; rfl) | rfl) rfl (by first | with_reducible rfl | (simp only [sAcc, if_neg c_3, if_neg c_11, if_neg c_16]; done) | (simp only [sAcc, if_neg c_3, if_neg c_11, if_neg c_16]; rfl) | rfl) dX6_accountOf_26
      · refine j_iconst X (v := 5) dX6_accountOf_19 (by decide) ?_
        refine j_goto X (tgt := 26) dX6_accountOf_20 (by decide) ?_
        exact j_iret X hr rfl (by first | with_reducible rfl | (simp only [sAcc, if_neg c_3, if_neg c_11, if_pos c_16]; done) | (simp only [sAcc, if_neg c_3, if_neg c_11, if_pos c_16]; rfl) | rfl) rfl (by first | with_reducible rfl | (simp only [sAcc, if_neg c_3, if_neg c_11, if_pos c_16]; done) | (simp only [sAcc, if_neg c_3, if_neg c_11, if_pos c_16]; rfl) | rfl) dX6_accountOf_26
  · refine j_bipush X (v := 6) dX6_accountOf_6 (by decide) ?_
    exact j_iret X hr rfl (by first | with_reducible rfl | (simp only [sAcc, if_pos c_3]; done) | (simp only [sAcc, if_pos c_3]; rfl) | rfl) rfl (by first | with_reducible rfl | (simp only [sAcc, if_pos c_3]; done) | (simp only [sAcc, if_pos c_3]; rfl) | rfl) dX6_accountOf_8
set_option maxRecDepth 100000 in
set_option maxHeartbeats 8000000 in
theorem c_X3_isUp (l : Launch) {D : DD} {B z : Nat} {h : HF} {a : Nat} {σ : St} {p : Int32} : CT l yX3_isUp cX3_isUp 2 (some .boolean) 1 21 [.ref (a + 3), .int p] D B z (hput D h a σ) (some (.int (pUp σ p))) 0 0 (hput D h a σ) := by
  refine CT.of (L := [(0, .ref (a + 3)), (1, .int p)]) (by decide +kernel) (Nat.le_of_ble_eq_true rfl) rfl ?_
  intro P E S0 M0 AR BL ME CO X hr hnm
  refine j_aload_n X 0 dX3_isUp_0 rfl rfl ?_
  refine j_get X fG_RX3_14 (hput_k 3 (by decide)) rfl rfl dX3_isUp_1 ?_
  refine j_iload_n X 1 dX3_isUp_4 rfl rfl ?_
  refine j_callVi X (rest := []) (s_at1 l) m_yX5_at kM_RX3_43 (hput_k 4 (by decide)) rfl rfl rfl rfl rfl (Nat.le_of_ble_eq_true rfl) ⟨Nat.le_of_ble_eq_true rfl, Nat.le_of_ble_eq_true rfl, Nat.le_of_ble_eq_true rfl, Nat.le_of_ble_eq_true rfl⟩ dX3_isUp_5 ?_
  refine j_iconst X (v := 1) dX3_isUp_8 (by decide) ?_
  refine j_icmp_ne X (tgt := 16) dX3_isUp_9 (by decide) (fun c_9 => ?_) (fun c_9 => ?_)
  · refine j_iconst X (v := 0) dX3_isUp_16 (by decide) ?_
    exact j_iret X hr rfl (by first | with_reducible rfl | (simp only [pUp, if_neg c_9]; done) | (simp only [pUp, if_neg c_9]; rfl) | rfl) rfl (by first | with_reducible rfl | (simp only [pUp, if_neg c_9]; done) | (simp only [pUp, if_neg c_9]; rfl) | rfl) dX3_isUp_17
  · refine j_iconst X (v := 1) dX3_isUp_12 (by decide) ?_
    refine j_goto X (tgt := 17) dX3_isUp_13 (by decide) ?_
    exact j_iret X hr rfl (by first | with_reducible rfl | (simp only [pUp, if_pos c_9]; done) | (simp only [pUp, if_pos c_9]; rfl) | rfl) rfl (by first | with_reducible rfl | (simp only [pUp, if_pos c_9]; done) | (simp only [pUp, if_pos c_9]; rfl) | rfl) dX3_isUp_17
set_option maxRecDepth 100000 in
set_option maxHeartbeats 8000000 in
theorem c_X3_isOpen (l : Launch) {D : DD} {B z : Nat} {h : HF} {a : Nat} {σ : St} {p : Int32} : CT l yX3_isOpen cX3_isOpen 2 (some .boolean) 1 21 [.ref (a + 3), .int p] D B z (hput D h a σ) (some (.int (pOpen σ p))) 0 0 (hput D h a σ) := by
  refine CT.of (L := [(0, .ref (a + 3)), (1, .int p)]) (by decide +kernel) (Nat.le_of_ble_eq_true rfl) rfl ?_
  intro P E S0 M0 AR BL ME CO X hr hnm
  refine j_aload_n X 0 dX3_isOpen_0 rfl rfl ?_
  refine j_get X fG_RX3_14 (hput_k 3 (by decide)) rfl rfl dX3_isOpen_1 ?_
  refine j_iload_n X 1 dX3_isOpen_4 rfl rfl ?_
  refine j_callVi X (rest := []) (s_at1 l) m_yX5_at kM_RX3_43 (hput_k 4 (by decide)) rfl rfl rfl rfl rfl (Nat.le_of_ble_eq_true rfl) ⟨Nat.le_of_ble_eq_true rfl, Nat.le_of_ble_eq_true rfl, Nat.le_of_ble_eq_true rfl, Nat.le_of_ble_eq_true rfl⟩ dX3_isOpen_5 ?_
  refine j_iconst X (v := 1) dX3_isOpen_8 (by decide) ?_
  refine j_icmp_ne X (tgt := 27) dX3_isOpen_9 (by decide) (fun c_9 => ?_) (fun c_9 => ?_)
  · refine j_iconst X (v := 0) dX3_isOpen_27 (by decide) ?_
    exact j_iret X hr rfl (by first | with_reducible rfl | (simp only [pOpen, if_neg c_9]; done) | (simp only [pOpen, if_neg c_9]; rfl) | rfl) rfl (by first | with_reducible rfl | (simp only [pOpen, if_neg c_9]; done) | (simp only [pOpen, if_neg c_9]; rfl) | rfl) dX3_isOpen_28
  · refine j_aload_n X 0 dX3_isOpen_12 rfl rfl ?_
    refine j_get X fG_RX3_20 (hput_k 3 (by decide)) rfl rfl dX3_isOpen_13 ?_
    refine j_iload_n X 1 dX3_isOpen_16 rfl rfl ?_
    refine j_callVi X (rest := []) (s_at2 l) m_yX5_at kM_RX3_43 (hput_k 6 (by decide)) rfl rfl rfl rfl rfl (Nat.le_of_ble_eq_true rfl) ⟨Nat.le_of_ble_eq_true rfl, Nat.le_of_ble_eq_true rfl, Nat.le_of_ble_eq_true rfl, Nat.le_of_ble_eq_true rfl⟩ dX3_isOpen_17 ?_
    refine j_if_ne X (tgt := 27) dX3_isOpen_20 (by decide) (fun c_20 => ?_) (fun c_20 => ?_)
    · refine j_iconst X (v := 0) dX3_isOpen_27 (by decide) ?_
      exact j_iret X hr rfl (by first | with_reducible rfl | (simp only [pOpen, if_pos c_9, if_neg c_20]; done) | (simp only [pOpen, if_pos c_9, if_neg c_20]; rfl) | rfl) rfl (by first | with_reducible rfl | (simp only [pOpen, if_pos c_9, if_neg c_20]; done) | (simp only [pOpen, if_pos c_9, if_neg c_20]; rfl) | rfl) dX3_isOpen_28
    · refine j_iconst X (v := 1) dX3_isOpen_23 (by decide) ?_
      refine j_goto X (tgt := 28) dX3_isOpen_24 (by decide) ?_
      exact j_iret X hr rfl (by first | with_reducible rfl | (simp only [pOpen, if_pos c_9, if_pos c_20]; done) | (simp only [pOpen, if_pos c_9, if_pos c_20]; rfl) | rfl) rfl (by first | with_reducible rfl | (simp only [pOpen, if_pos c_9, if_pos c_20]; done) | (simp only [pOpen, if_pos c_9, if_pos c_20]; rfl) | rfl) dX3_isOpen_28
set_option maxRecDepth 100000 in
set_option maxHeartbeats 8000000 in
theorem c_X3_turn (l : Launch) {D : DD} {B z : Nat} {h : HF} {a : Nat} {σ : St} {p up : Int32} : CT l yX3_turn cX3_turn 3 none 1 22 [.ref (a + 3), .int p, .int up] D B z (hput D h a σ) none 0 0 (hput D h a (pTurn σ p up)) := by
  refine CT.of (L := [(0, .ref (a + 3)), (1, .int p), (2, .int up)]) (by decide +kernel) (Nat.le_of_ble_eq_true rfl) rfl ?_
  intro P E S0 M0 AR BL ME CO X hr hnm
  refine j_aload_n X 0 dX3_turn_0 rfl rfl ?_
  refine j_get X fG_RX3_14 (hput_k 3 (by decide)) rfl rfl dX3_turn_1 ?_
  refine j_iload_n X 1 dX3_turn_4 rfl rfl ?_
  refine j_iload_n X 2 dX3_turn_5 rfl rfl ?_
  refine j_if_eq X (tgt := 13) dX3_turn_6 (by decide) (fun c_6 => ?_) (fun c_6 => ?_)
  · refine j_iconst X (v := 0) dX3_turn_13 (by decide) ?_
    refine j_callVv X (rest := []) (s_put1 l) m_yX5_put kM_RX3_47 (hput_k 4 (by decide)) rfl rfl rfl rfl rfl (Nat.le_of_ble_eq_true rfl) ⟨Nat.le_of_ble_eq_true rfl, Nat.le_of_ble_eq_true rfl, Nat.le_of_ble_eq_true rfl, Nat.le_of_ble_eq_true rfl⟩ dX3_turn_14 ?_
    exact j_vret X hr rfl (by first | with_reducible rfl | (simp only [pTurn, if_pos c_6]; done) | (simp only [pTurn, if_pos c_6]; rfl) | rfl) dX3_turn_17
  · refine j_iconst X (v := 1) dX3_turn_9 (by decide) ?_
    refine j_goto X (tgt := 14) dX3_turn_10 (by decide) ?_
    refine j_callVv X (rest := []) (s_put1 l) m_yX5_put kM_RX3_47 (hput_k 4 (by decide)) rfl rfl rfl rfl rfl (Nat.le_of_ble_eq_true rfl) ⟨Nat.le_of_ble_eq_true rfl, Nat.le_of_ble_eq_true rfl, Nat.le_of_ble_eq_true rfl, Nat.le_of_ble_eq_true rfl⟩ dX3_turn_14 ?_
    exact j_vret X hr rfl (by first | with_reducible rfl | (simp only [pTurn, if_neg c_6]; done) | (simp only [pTurn, if_neg c_6]; rfl) | rfl) dX3_turn_17
set_option maxRecDepth 100000 in
set_option maxHeartbeats 8000000 in
theorem c_X3_openOnes (l : Launch) {D : DD} {B z : Nat} {h : HF} {a : Nat} {σ : St}  : CT l yX3_openOnes cX3_openOnes 3 (some .int) 2 42 [.ref (a + 3)] D B z (hput D h a σ) (some (.int (pOnes σ 8))) 0 0 (hput D h a σ) := by
  refine CT.of (L := [(0, .ref (a + 3))]) (by decide +kernel) (Nat.le_of_ble_eq_true rfl) rfl ?_
  intro P E S0 M0 AR BL ME CO X hr hnm
  refine j_iconst X (v := 0) dX3_openOnes_0 (by decide) ?_
  refine j_istore_n X (L' := [(1, .int 0), (0, .ref (a + 3))]) dX3_openOnes_1 rfl (by decide) rfl ?_
  refine j_iconst X (v := 0) dX3_openOnes_2 (by decide) ?_
  refine j_istore_n X (L' := [(2, .int 0), (1, .int 0), (0, .ref (a + 3))]) dX3_openOnes_3 rfl (by decide) rfl ?_
  have loop4 : ∀ (n k : Nat), k + n = 8 → J P l E { frames := 2, cells := 0, slots := 0, locals := 42 } S0 M0 AR BL ME CO D B 3 (MQ BL (QC (some (.int (pOnes σ 8))) D B (z + 0) (hput D h a σ)) AR S0 0 0 (aB B)) 0 0 z (hput D h a σ) [(0, .ref (a + 3)), (1, .int (pOnes σ k)), (2, .int (nI k))] [] 4 := by
    intro n
    induction n with
    | zero =>
      intro k hk
      obtain rfl : k = 8 := by omega
      refine j_iload_n X 2 dX3_openOnes_4 rfl rfl ?_
      refine j_bipush X (v := 8) dX3_openOnes_5 (by decide) ?_
      refine j_icmp_ge X (tgt := 30) dX3_openOnes_7 (by decide) (fun c_7 => ?_) (fun c_7 => absurd c_7 (by decide))
      refine j_iload_n X 1 dX3_openOnes_30 rfl rfl ?_
      exact j_iret X hr rfl (by first | with_reducible rfl | (simp only [pOnes, if_neg c_7]; done) | (simp only [pOnes, if_neg c_7]; rfl) | rfl) rfl (by first | with_reducible rfl | (simp only [pOnes, if_neg c_7]; done) | (simp only [pOnes, if_neg c_7]; rfl) | rfl) dX3_openOnes_31
    | succ n ih =>
      intro k hk
      have hlt : nI k < 8 := nlt_lit (b := 8) (by omega) (by decide)
      refine j_iload_n X 2 dX3_openOnes_4 rfl rfl ?_
      refine j_bipush X (v := 8) dX3_openOnes_5 (by decide) ?_
      refine j_icmp_ge X (tgt := 30) dX3_openOnes_7 (by decide) (fun c_7 => absurd hlt c_7) (fun c_7 => ?_)
      refine j_aload_n X 0 dX3_openOnes_10 rfl rfl ?_
      refine j_iload_n X 2 dX3_openOnes_11 rfl rfl ?_
      refine j_callVi X (rest := []) (c_X3_isOpen l) m_yX3_isOpen kM_RX3_51 (hput_k 3 (by decide)) rfl rfl rfl rfl rfl (Nat.le_of_ble_eq_true rfl) ⟨Nat.le_of_ble_eq_true rfl, Nat.le_of_ble_eq_true rfl, Nat.le_of_ble_eq_true rfl, Nat.le_of_ble_eq_true rfl⟩ dX3_openOnes_12 ?_
      refine j_if_eq X (tgt := 24) dX3_openOnes_15 (by decide) (fun c_15 => ?_) (fun c_15 => ?_)
      · obtain ⟨v1, ev1⟩ : ∃ y : Int32, (nI k) + 1 = y := ⟨_, rfl⟩
        refine j_iinc X 2 (k := 1) (v := v1) (L' := [(2, .int v1), (0, .ref (a + 3)), (1, .int (pOnes σ k))]) dX3_openOnes_24 rfl (by decide) (by decide) ev1 rfl ?_
        refine j_goto X (tgt := 4) dX3_openOnes_27 (by decide) ?_
        refine j_sub [1, 2, 0] (L' := [(0, .ref (a + 3)), (1, .int (pOnes σ (k + 1))), (2, .int (nI (k + 1)))]) (by subst ev1; first | with_reducible rfl | (simp only [pOnes, nI_0, nI_succ k, if_pos c_7, if_pos c_15]; done) | (simp only [pOnes, nI_0, nI_succ k, if_pos c_7, if_pos c_15]; rfl) | rfl) ?_
        exact ih (k + 1) (by omega)
      · refine j_iload_n X 1 dX3_openOnes_18 rfl rfl ?_
        refine j_iconst X (v := 1) dX3_openOnes_19 (by decide) ?_
        refine j_iload_n X 2 dX3_openOnes_20 rfl rfl ?_
        refine j_ishl X dX3_openOnes_21 ?_
        refine j_ior X dX3_openOnes_22 ?_
        refine j_tops (fun v2 ev2 => ?_)
        refine j_istore_n X (L' := [(1, .int v2), (0, .ref (a + 3)), (2, .int (nI k))]) dX3_openOnes_23 rfl (by decide) rfl ?_
        obtain ⟨v3, ev3⟩ : ∃ y : Int32, (nI k) + 1 = y := ⟨_, rfl⟩
        refine j_iinc X 2 (k := 1) (v := v3) (L' := [(2, .int v3), (1, .int v2), (0, .ref (a + 3))]) dX3_openOnes_24 rfl (by decide) (by decide) ev3 rfl ?_
        refine j_goto X (tgt := 4) dX3_openOnes_27 (by decide) ?_
        refine j_sub [2, 1, 0] (L' := [(0, .ref (a + 3)), (1, .int (pOnes σ (k + 1))), (2, .int (nI (k + 1)))]) (by subst ev3 ev2; first | with_reducible rfl | (simp only [pOnes, nI_0, nI_succ k, if_pos c_7, if_neg c_15]; done) | (simp only [pOnes, nI_0, nI_succ k, if_pos c_7, if_neg c_15]; rfl) | rfl) ?_
        exact ih (k + 1) (by omega)
  refine j_sub [2, 1, 0] (L' := [(0, .ref (a + 3)), (1, .int (pOnes σ 0)), (2, .int (nI 0))]) (by first | with_reducible rfl | (simp only [pOnes, nI_0]; done) | (simp only [pOnes, nI_0]; rfl) | rfl) ?_
  exact loop4 8 0 rfl
set_option maxRecDepth 100000 in
set_option maxHeartbeats 8000000 in
theorem c_X3_secondsLeft (l : Launch) {D : DD} {B z : Nat} {h : HF} {a : Nat} {σ : St} {p : Int32} : CT l yX3_secondsLeft cX3_secondsLeft 2 (some .int) 1 21 [.ref (a + 3), .int p] D B z (hput D h a σ) (some (.int (oAt 2 8 σ p))) 0 0 (hput D h a σ) := by
  refine CT.of (L := [(0, .ref (a + 3)), (1, .int p)]) (by decide +kernel) (Nat.le_of_ble_eq_true rfl) rfl ?_
  intro P E S0 M0 AR BL ME CO X hr hnm
  refine j_aload_n X 0 dX3_secondsLeft_0 rfl rfl ?_
  refine j_get X fG_RX3_20 (hput_k 3 (by decide)) rfl rfl dX3_secondsLeft_1 ?_
  refine j_iload_n X 1 dX3_secondsLeft_4 rfl rfl ?_
  refine j_callVi X (rest := []) (s_at2 l) m_yX5_at kM_RX3_43 (hput_k 6 (by decide)) rfl rfl rfl rfl rfl (Nat.le_of_ble_eq_true rfl) ⟨Nat.le_of_ble_eq_true rfl, Nat.le_of_ble_eq_true rfl, Nat.le_of_ble_eq_true rfl, Nat.le_of_ble_eq_true rfl⟩ dX3_secondsLeft_5 ?_
  exact j_iret X hr rfl (by first | with_reducible rfl | (simp only [oAt]; done) | (simp only [oAt]; rfl) | rfl) rfl (by first | with_reducible rfl | (simp only [oAt]; done) | (simp only [oAt]; rfl) | rfl) dX3_secondsLeft_8
set_option maxRecDepth 100000 in
set_option maxHeartbeats 8000000 in
theorem c_X3_beginQuarantine (l : Launch) {D : DD} {B z : Nat} {h : HF} {a : Nat} {σ : St} {p sec why : Int32} : CT l yX3_beginQuarantine cX3_beginQuarantine 4 none 1 22 [.ref (a + 3), .int p, .int sec, .int why] D B z (hput D h a σ) none 0 0 (hput D h a (pBegin σ p sec why)) := by
  refine CT.of (L := [(0, .ref (a + 3)), (1, .int p), (2, .int sec), (3, .int why)]) (by decide +kernel) (Nat.le_of_ble_eq_true rfl) rfl ?_
  intro P E S0 M0 AR BL ME CO X hr hnm
  refine j_aload_n X 0 dX3_beginQuarantine_0 rfl rfl ?_
  refine j_get X fG_RX3_20 (hput_k 3 (by decide)) rfl rfl dX3_beginQuarantine_1 ?_
  refine j_iload_n X 1 dX3_beginQuarantine_4 rfl rfl ?_
  refine j_iload_n X 2 dX3_beginQuarantine_5 rfl rfl ?_
  refine j_callVv X (rest := []) (s_put2 l) m_yX5_put kM_RX3_47 (hput_k 6 (by decide)) rfl rfl rfl rfl rfl (Nat.le_of_ble_eq_true rfl) ⟨Nat.le_of_ble_eq_true rfl, Nat.le_of_ble_eq_true rfl, Nat.le_of_ble_eq_true rfl, Nat.le_of_ble_eq_true rfl⟩ dX3_beginQuarantine_6 ?_
  refine j_aload_n X 0 dX3_beginQuarantine_9 rfl rfl ?_
  refine j_get X fG_RX3_23 (hput_k 3 (by decide)) rfl rfl dX3_beginQuarantine_10 ?_
  refine j_iload_n X 1 dX3_beginQuarantine_13 rfl rfl ?_
  refine j_iload_n X 3 dX3_beginQuarantine_14 rfl rfl ?_
  refine j_callVv X (rest := []) (s_put3 l) m_yX5_put kM_RX3_47 (hput_k 8 (by decide)) rfl rfl rfl rfl rfl (Nat.le_of_ble_eq_true rfl) ⟨Nat.le_of_ble_eq_true rfl, Nat.le_of_ble_eq_true rfl, Nat.le_of_ble_eq_true rfl, Nat.le_of_ble_eq_true rfl⟩ dX3_beginQuarantine_15 ?_
  exact j_vret X hr rfl (by first | with_reducible rfl | (simp only [pBegin]; done) | (simp only [pBegin]; rfl) | rfl) dX3_beginQuarantine_18
set_option maxRecDepth 100000 in
set_option maxHeartbeats 8000000 in
theorem c_X3_endQuarantine (l : Launch) {D : DD} {B z : Nat} {h : HF} {a : Nat} {σ : St} {p : Int32} : CT l yX3_endQuarantine cX3_endQuarantine 2 none 1 22 [.ref (a + 3), .int p] D B z (hput D h a σ) none 0 0 (hput D h a (pEnd σ p)) := by
  refine CT.of (L := [(0, .ref (a + 3)), (1, .int p)]) (by decide +kernel) (Nat.le_of_ble_eq_true rfl) rfl ?_
  intro P E S0 M0 AR BL ME CO X hr hnm
  refine j_aload_n X 0 dX3_endQuarantine_0 rfl rfl ?_
  refine j_get X fG_RX3_20 (hput_k 3 (by decide)) rfl rfl dX3_endQuarantine_1 ?_
  refine j_iload_n X 1 dX3_endQuarantine_4 rfl rfl ?_
  refine j_iconst X (v := 0) dX3_endQuarantine_5 (by decide) ?_
  refine j_callVv X (rest := []) (s_put2 l) m_yX5_put kM_RX3_47 (hput_k 6 (by decide)) rfl rfl rfl rfl rfl (Nat.le_of_ble_eq_true rfl) ⟨Nat.le_of_ble_eq_true rfl, Nat.le_of_ble_eq_true rfl, Nat.le_of_ble_eq_true rfl, Nat.le_of_ble_eq_true rfl⟩ dX3_endQuarantine_6 ?_
  exact j_vret X hr rfl (by first | with_reducible rfl | (simp only [pEnd]; done) | (simp only [pEnd]; rfl) | rfl) dX3_endQuarantine_9
set_option maxRecDepth 100000 in
set_option maxHeartbeats 8000000 in
theorem c_X3_quarantined (l : Launch) {D : DD} {B z : Nat} {h : HF} {a : Nat} {σ : St}  : CT l yX3_quarantined cX3_quarantined 3 (some .int) 1 21 [.ref (a + 3)] D B z (hput D h a σ) (some (.int (pQuar σ 8))) 0 0 (hput D h a σ) := by
  refine CT.of (L := [(0, .ref (a + 3))]) (by decide +kernel) (Nat.le_of_ble_eq_true rfl) rfl ?_
  intro P E S0 M0 AR BL ME CO X hr hnm
  refine j_iconst X (v := 0) dX3_quarantined_0 (by decide) ?_
  refine j_istore_n X (L' := [(1, .int 0), (0, .ref (a + 3))]) dX3_quarantined_1 rfl (by decide) rfl ?_
  refine j_iconst X (v := 0) dX3_quarantined_2 (by decide) ?_
  refine j_istore_n X (L' := [(2, .int 0), (1, .int 0), (0, .ref (a + 3))]) dX3_quarantined_3 rfl (by decide) rfl ?_
  have loop4 : ∀ (n k : Nat), k + n = 8 → J P l E { frames := 1, cells := 0, slots := 0, locals := 21 } S0 M0 AR BL ME CO D B 3 (MQ BL (QC (some (.int (pQuar σ 8))) D B (z + 0) (hput D h a σ)) AR S0 0 0 (aB B)) 0 0 z (hput D h a σ) [(0, .ref (a + 3)), (1, .int (pQuar σ k)), (2, .int (nI k))] [] 4 := by
    intro n
    induction n with
    | zero =>
      intro k hk
      obtain rfl : k = 8 := by omega
      refine j_iload_n X 2 dX3_quarantined_4 rfl rfl ?_
      refine j_bipush X (v := 8) dX3_quarantined_5 (by decide) ?_
      refine j_icmp_ge X (tgt := 30) dX3_quarantined_7 (by decide) (fun c_7 => ?_) (fun c_7 => absurd c_7 (by decide))
      refine j_iload_n X 1 dX3_quarantined_30 rfl rfl ?_
      exact j_iret X hr rfl (by first | with_reducible rfl | (simp only [pQuar, if_neg c_7]; done) | (simp only [pQuar, if_neg c_7]; rfl) | rfl) rfl (by first | with_reducible rfl | (simp only [pQuar, if_neg c_7]; done) | (simp only [pQuar, if_neg c_7]; rfl) | rfl) dX3_quarantined_31
    | succ n ih =>
      intro k hk
      have hlt : nI k < 8 := nlt_lit (b := 8) (by omega) (by decide)
      refine j_iload_n X 2 dX3_quarantined_4 rfl rfl ?_
      refine j_bipush X (v := 8) dX3_quarantined_5 (by decide) ?_
      refine j_icmp_ge X (tgt := 30) dX3_quarantined_7 (by decide) (fun c_7 => absurd hlt c_7) (fun c_7 => ?_)
      refine j_aload_n X 0 dX3_quarantined_10 rfl rfl ?_
      refine j_get X fG_RX3_20 (hput_k 3 (by decide)) rfl rfl dX3_quarantined_11 ?_
      refine j_iload_n X 2 dX3_quarantined_14 rfl rfl ?_
      refine j_callVi X (rest := []) (s_at2 l) m_yX5_at kM_RX3_43 (hput_k 6 (by decide)) rfl rfl rfl rfl rfl (Nat.le_of_ble_eq_true rfl) ⟨Nat.le_of_ble_eq_true rfl, Nat.le_of_ble_eq_true rfl, Nat.le_of_ble_eq_true rfl, Nat.le_of_ble_eq_true rfl⟩ dX3_quarantined_15 ?_
      refine j_if_le X (tgt := 24) dX3_quarantined_18 (by decide) (fun c_18 => ?_) (fun c_18 => ?_)
      · obtain ⟨v1, ev1⟩ : ∃ y : Int32, (nI k) + 1 = y := ⟨_, rfl⟩
        refine j_iinc X 2 (k := 1) (v := v1) (L' := [(2, .int v1), (0, .ref (a + 3)), (1, .int (pQuar σ k))]) dX3_quarantined_24 rfl (by decide) (by decide) ev1 rfl ?_
        refine j_goto X (tgt := 4) dX3_quarantined_27 (by decide) ?_
        refine j_sub [1, 2, 0] (L' := [(0, .ref (a + 3)), (1, .int (pQuar σ (k + 1))), (2, .int (nI (k + 1)))]) (by subst ev1; first | with_reducible rfl | (simp only [pQuar, nI_0, nI_succ k, if_pos c_7, if_neg c_18]; done) | (simp only [pQuar, nI_0, nI_succ k, if_pos c_7, if_neg c_18]; rfl) | rfl) ?_
        exact ih (k + 1) (by omega)
      · obtain ⟨v2, ev2⟩ : ∃ y : Int32, (pQuar σ k) + 1 = y := ⟨_, rfl⟩
        refine j_iinc X 1 (k := 1) (v := v2) (L' := [(1, .int v2), (0, .ref (a + 3)), (2, .int (nI k))]) dX3_quarantined_21 rfl (by decide) (by decide) ev2 rfl ?_
        obtain ⟨v3, ev3⟩ : ∃ y : Int32, (nI k) + 1 = y := ⟨_, rfl⟩
        refine j_iinc X 2 (k := 1) (v := v3) (L' := [(2, .int v3), (1, .int v2), (0, .ref (a + 3))]) dX3_quarantined_24 rfl (by decide) (by decide) ev3 rfl ?_
        refine j_goto X (tgt := 4) dX3_quarantined_27 (by decide) ?_
        refine j_sub [2, 1, 0] (L' := [(0, .ref (a + 3)), (1, .int (pQuar σ (k + 1))), (2, .int (nI (k + 1)))]) (by subst ev3 ev2; first | with_reducible rfl | (simp only [pQuar, nI_0, nI_succ k, if_pos c_7, if_pos c_18]; done) | (simp only [pQuar, nI_0, nI_succ k, if_pos c_7, if_pos c_18]; rfl) | rfl) ?_
        exact ih (k + 1) (by omega)
  refine j_sub [2, 1, 0] (L' := [(0, .ref (a + 3)), (1, .int (pQuar σ 0)), (2, .int (nI 0))]) (by first | with_reducible rfl | (simp only [pQuar, nI_0]; done) | (simp only [pQuar, nI_0]; rfl) | rfl) ?_
  exact loop4 8 0 rfl
set_option maxRecDepth 100000 in
set_option maxHeartbeats 8000000 in
theorem c_X3_farEnd (l : Launch) {D : DD} {B z : Nat} {h : HF} {a : Nat} {σ : St} {p : Int32} : CT l yX3_farEnd cX3_farEnd 2 (some .int) 1 21 [.ref (a + 3), .int p] D B z (hput D h a σ) (some (.int (pFar σ p))) 0 0 (hput D h a σ) := by
  refine CT.of (L := [(0, .ref (a + 3)), (1, .int p)]) (by decide +kernel) (Nat.le_of_ble_eq_true rfl) rfl ?_
  intro P E S0 M0 AR BL ME CO X hr hnm
  refine j_aload_n X 0 dX3_farEnd_0 rfl rfl ?_
  refine j_get X fG_RX3_26 (hput_k 3 (by decide)) rfl rfl dX3_farEnd_1 ?_
  refine j_iload_n X 1 dX3_farEnd_4 rfl rfl ?_
  refine j_callVi X (rest := []) (s_at4 l) m_yX5_at kM_RX3_43 (hput_k 10 (by decide)) rfl rfl rfl rfl rfl (Nat.le_of_ble_eq_true rfl) ⟨Nat.le_of_ble_eq_true rfl, Nat.le_of_ble_eq_true rfl, Nat.le_of_ble_eq_true rfl, Nat.le_of_ble_eq_true rfl⟩ dX3_farEnd_5 ?_
  exact j_iret X hr rfl (by first | with_reducible rfl | (simp only [pFar]; done) | (simp only [pFar]; rfl) | rfl) rfl (by first | with_reducible rfl | (simp only [pFar]; done) | (simp only [pFar]; rfl) | rfl) dX3_farEnd_8
set_option maxRecDepth 100000 in
set_option maxHeartbeats 8000000 in
theorem c_X3_tie (l : Launch) {D : DD} {B z : Nat} {h : HF} {a : Nat} {σ : St} {p q : Int32} : CT l yX3_tie cX3_tie 3 none 1 22 [.ref (a + 3), .int p, .int q] D B z (hput D h a σ) none 0 0 (hput D h a (pTie σ p q)) := by
  refine CT.of (L := [(0, .ref (a + 3)), (1, .int p), (2, .int q)]) (by decide +kernel) (Nat.le_of_ble_eq_true rfl) rfl ?_
  intro P E S0 M0 AR BL ME CO X hr hnm
  refine j_aload_n X 0 dX3_tie_0 rfl rfl ?_
  refine j_get X fG_RX3_26 (hput_k 3 (by decide)) rfl rfl dX3_tie_1 ?_
  refine j_iload_n X 1 dX3_tie_4 rfl rfl ?_
  refine j_iload_n X 2 dX3_tie_5 rfl rfl ?_
  refine j_callVv X (rest := []) (s_put4 l) m_yX5_put kM_RX3_47 (hput_k 10 (by decide)) rfl rfl rfl rfl rfl (Nat.le_of_ble_eq_true rfl) ⟨Nat.le_of_ble_eq_true rfl, Nat.le_of_ble_eq_true rfl, Nat.le_of_ble_eq_true rfl, Nat.le_of_ble_eq_true rfl⟩ dX3_tie_6 ?_
  refine j_aload_n X 0 dX3_tie_9 rfl rfl ?_
  refine j_get X fG_RX3_26 (hput_k 3 (by decide)) rfl rfl dX3_tie_10 ?_
  refine j_iload_n X 2 dX3_tie_13 rfl rfl ?_
  refine j_iload_n X 1 dX3_tie_14 rfl rfl ?_
  refine j_callVv X (rest := []) (s_put4 l) m_yX5_put kM_RX3_47 (hput_k 10 (by decide)) rfl rfl rfl rfl rfl (Nat.le_of_ble_eq_true rfl) ⟨Nat.le_of_ble_eq_true rfl, Nat.le_of_ble_eq_true rfl, Nat.le_of_ble_eq_true rfl, Nat.le_of_ble_eq_true rfl⟩ dX3_tie_15 ?_
  exact j_vret X hr rfl (by first | with_reducible rfl | (simp only [pTie]; done) | (simp only [pTie]; rfl) | rfl) dX3_tie_18
set_option maxRecDepth 100000 in
set_option maxHeartbeats 8000000 in
theorem c_X3_untie (l : Launch) {D : DD} {B z : Nat} {h : HF} {a : Nat} {σ : St} {p q : Int32} : CT l yX3_untie cX3_untie 3 none 1 22 [.ref (a + 3), .int p, .int q] D B z (hput D h a σ) none 0 0 (hput D h a (pUntie σ p q)) := by
  refine CT.of (L := [(0, .ref (a + 3)), (1, .int p), (2, .int q)]) (by decide +kernel) (Nat.le_of_ble_eq_true rfl) rfl ?_
  intro P E S0 M0 AR BL ME CO X hr hnm
  refine j_aload_n X 0 dX3_untie_0 rfl rfl ?_
  refine j_get X fG_RX3_26 (hput_k 3 (by decide)) rfl rfl dX3_untie_1 ?_
  refine j_iload_n X 1 dX3_untie_4 rfl rfl ?_
  refine j_bipush X (v := (-4)) dX3_untie_5 (by decide) ?_
  refine j_callVv X (rest := []) (s_put4 l) m_yX5_put kM_RX3_47 (hput_k 10 (by decide)) rfl rfl rfl rfl rfl (Nat.le_of_ble_eq_true rfl) ⟨Nat.le_of_ble_eq_true rfl, Nat.le_of_ble_eq_true rfl, Nat.le_of_ble_eq_true rfl, Nat.le_of_ble_eq_true rfl⟩ dX3_untie_7 ?_
  refine j_aload_n X 0 dX3_untie_10 rfl rfl ?_
  refine j_get X fG_RX3_26 (hput_k 3 (by decide)) rfl rfl dX3_untie_11 ?_
  refine j_iload_n X 2 dX3_untie_14 rfl rfl ?_
  refine j_bipush X (v := (-4)) dX3_untie_15 (by decide) ?_
  refine j_callVv X (rest := []) (s_put4 l) m_yX5_put kM_RX3_47 (hput_k 10 (by decide)) rfl rfl rfl rfl rfl (Nat.le_of_ble_eq_true rfl) ⟨Nat.le_of_ble_eq_true rfl, Nat.le_of_ble_eq_true rfl, Nat.le_of_ble_eq_true rfl, Nat.le_of_ble_eq_true rfl⟩ dX3_untie_17 ?_
  exact j_vret X hr rfl (by first | with_reducible rfl | (simp only [pUntie]; done) | (simp only [pUntie]; rfl) | rfl) dX3_untie_20
set_option maxRecDepth 100000 in
set_option maxHeartbeats 8000000 in
theorem c_X3_cables (l : Launch) {D : DD} {B z : Nat} {h : HF} {a : Nat} {σ : St}  : CT l yX3_cables cX3_cables 3 (some .int) 1 21 [.ref (a + 3)] D B z (hput D h a σ) (some (.int (pCab σ 8 / 2))) 0 0 (hput D h a σ) := by
  refine CT.of (L := [(0, .ref (a + 3))]) (by decide +kernel) (Nat.le_of_ble_eq_true rfl) rfl ?_
  intro P E S0 M0 AR BL ME CO X hr hnm
  refine j_iconst X (v := 0) dX3_cables_0 (by decide) ?_
  refine j_istore_n X (L' := [(1, .int 0), (0, .ref (a + 3))]) dX3_cables_1 rfl (by decide) rfl ?_
  refine j_iconst X (v := 0) dX3_cables_2 (by decide) ?_
  refine j_istore_n X (L' := [(2, .int 0), (1, .int 0), (0, .ref (a + 3))]) dX3_cables_3 rfl (by decide) rfl ?_
  have loop4 : ∀ (n k : Nat), k + n = 8 → J P l E { frames := 1, cells := 0, slots := 0, locals := 21 } S0 M0 AR BL ME CO D B 3 (MQ BL (QC (some (.int (pCab σ 8 / 2))) D B (z + 0) (hput D h a σ)) AR S0 0 0 (aB B)) 0 0 z (hput D h a σ) [(0, .ref (a + 3)), (1, .int (pCab σ k)), (2, .int (nI k))] [] 4 := by
    intro n
    induction n with
    | zero =>
      intro k hk
      obtain rfl : k = 8 := by omega
      refine j_iload_n X 2 dX3_cables_4 rfl rfl ?_
      refine j_bipush X (v := 8) dX3_cables_5 (by decide) ?_
      refine j_icmp_ge X (tgt := 32) dX3_cables_7 (by decide) (fun c_7 => ?_) (fun c_7 => absurd c_7 (by decide))
      refine j_iload_n X 1 dX3_cables_32 rfl rfl ?_
      refine j_iconst X (v := 2) dX3_cables_33 (by decide) ?_
      refine j_idiv X dX3_cables_34 (by decide) ?_
      exact j_iret X hr rfl (by first | with_reducible rfl | (simp only [pCab, if_neg c_7]; done) | (simp only [pCab, if_neg c_7]; rfl) | rfl) rfl (by first | with_reducible rfl | (simp only [pCab, if_neg c_7]; done) | (simp only [pCab, if_neg c_7]; rfl) | rfl) dX3_cables_35
    | succ n ih =>
      intro k hk
      have hlt : nI k < 8 := nlt_lit (b := 8) (by omega) (by decide)
      refine j_iload_n X 2 dX3_cables_4 rfl rfl ?_
      refine j_bipush X (v := 8) dX3_cables_5 (by decide) ?_
      refine j_icmp_ge X (tgt := 32) dX3_cables_7 (by decide) (fun c_7 => absurd hlt c_7) (fun c_7 => ?_)
      refine j_aload_n X 0 dX3_cables_10 rfl rfl ?_
      refine j_get X fG_RX3_26 (hput_k 3 (by decide)) rfl rfl dX3_cables_11 ?_
      refine j_iload_n X 2 dX3_cables_14 rfl rfl ?_
      refine j_callVi X (rest := []) (s_at4 l) m_yX5_at kM_RX3_43 (hput_k 10 (by decide)) rfl rfl rfl rfl rfl (Nat.le_of_ble_eq_true rfl) ⟨Nat.le_of_ble_eq_true rfl, Nat.le_of_ble_eq_true rfl, Nat.le_of_ble_eq_true rfl, Nat.le_of_ble_eq_true rfl⟩ dX3_cables_15 ?_
      refine j_bipush X (v := (-4)) dX3_cables_18 (by decide) ?_
      refine j_icmp_eq X (tgt := 26) dX3_cables_20 (by decide) (fun c_20 => ?_) (fun c_20 => ?_)
      · obtain ⟨v1, ev1⟩ : ∃ y : Int32, (nI k) + 1 = y := ⟨_, rfl⟩
        refine j_iinc X 2 (k := 1) (v := v1) (L' := [(2, .int v1), (0, .ref (a + 3)), (1, .int (pCab σ k))]) dX3_cables_26 rfl (by decide) (by decide) ev1 rfl ?_
        refine j_goto X (tgt := 4) dX3_cables_29 (by decide) ?_
        refine j_sub [1, 2, 0] (L' := [(0, .ref (a + 3)), (1, .int (pCab σ (k + 1))), (2, .int (nI (k + 1)))]) (by subst ev1; first | with_reducible rfl | (simp only [pCab, nI_0, nI_succ k, if_pos c_7, if_pos c_20]; done) | (simp only [pCab, nI_0, nI_succ k, if_pos c_7, if_pos c_20]; rfl) | rfl) ?_
        exact ih (k + 1) (by omega)
      · obtain ⟨v2, ev2⟩ : ∃ y : Int32, (pCab σ k) + 1 = y := ⟨_, rfl⟩
        refine j_iinc X 1 (k := 1) (v := v2) (L' := [(1, .int v2), (0, .ref (a + 3)), (2, .int (nI k))]) dX3_cables_23 rfl (by decide) (by decide) ev2 rfl ?_
        obtain ⟨v3, ev3⟩ : ∃ y : Int32, (nI k) + 1 = y := ⟨_, rfl⟩
        refine j_iinc X 2 (k := 1) (v := v3) (L' := [(2, .int v3), (1, .int v2), (0, .ref (a + 3))]) dX3_cables_26 rfl (by decide) (by decide) ev3 rfl ?_
        refine j_goto X (tgt := 4) dX3_cables_29 (by decide) ?_
        refine j_sub [2, 1, 0] (L' := [(0, .ref (a + 3)), (1, .int (pCab σ (k + 1))), (2, .int (nI (k + 1)))]) (by subst ev3 ev2; first | with_reducible rfl | (simp only [pCab, nI_0, nI_succ k, if_pos c_7, if_neg c_20]; done) | (simp only [pCab, nI_0, nI_succ k, if_pos c_7, if_neg c_20]; rfl) | rfl) ?_
        exact ih (k + 1) (by omega)
  refine j_sub [2, 1, 0] (L' := [(0, .ref (a + 3)), (1, .int (pCab σ 0)), (2, .int (nI 0))]) (by first | with_reducible rfl | (simp only [pCab, nI_0]; done) | (simp only [pCab, nI_0]; rfl) | rfl) ?_
  exact loop4 8 0 rfl
set_option maxRecDepth 100000 in
set_option maxHeartbeats 8000000 in
theorem c_X3_credit (l : Launch) {D : DD} {B z : Nat} {h : HF} {a : Nat} {σ : St} {p w v : Int32} : CT l yX3_credit cX3_credit 4 none 1 22 [.ref (a + 3), .int p, .int w, .int v] D B z (hput D h a σ) none 0 0 (hput D h a (pCredit σ p w v)) := by
  refine CT.of (L := [(0, .ref (a + 3)), (1, .int p), (2, .int w), (3, .int v)]) (by decide +kernel) (Nat.le_of_ble_eq_true rfl) rfl ?_
  intro P E S0 M0 AR BL ME CO X hr hnm
  refine j_aload_n X 0 dX3_credit_0 rfl rfl ?_
  refine j_get X fG_RX3_32 (hput_k 3 (by decide)) rfl rfl dX3_credit_1 ?_
  refine j_iload_n X 1 dX3_credit_4 rfl rfl ?_
  refine j_bipush X (v := 11) dX3_credit_5 (by decide) ?_
  refine j_imul X dX3_credit_7 ?_
  refine j_iload_n X 2 dX3_credit_8 rfl rfl ?_
  refine j_iadd X dX3_credit_9 ?_
  refine j_iload_n X 3 dX3_credit_10 rfl rfl ?_
  refine j_callVv X (rest := []) (s_add6 l) m_yX5_add kM_RX3_55 (hput_k 14 (by decide)) rfl rfl rfl rfl rfl (Nat.le_of_ble_eq_true rfl) ⟨Nat.le_of_ble_eq_true rfl, Nat.le_of_ble_eq_true rfl, Nat.le_of_ble_eq_true rfl, Nat.le_of_ble_eq_true rfl⟩ dX3_credit_11 ?_
  exact j_vret X hr rfl (by first | with_reducible rfl | (simp only [pCredit]; done) | (simp only [pCredit]; rfl) | rfl) dX3_credit_14
set_option maxRecDepth 100000 in
set_option maxHeartbeats 8000000 in
theorem c_X3_credited (l : Launch) {D : DD} {B z : Nat} {h : HF} {a : Nat} {σ : St} {p w : Int32} : CT l yX3_credited cX3_credited 3 (some .int) 1 21 [.ref (a + 3), .int p, .int w] D B z (hput D h a σ) (some (.int (pCredited σ p w))) 0 0 (hput D h a σ) := by
  refine CT.of (L := [(0, .ref (a + 3)), (1, .int p), (2, .int w)]) (by decide +kernel) (Nat.le_of_ble_eq_true rfl) rfl ?_
  intro P E S0 M0 AR BL ME CO X hr hnm
  refine j_aload_n X 0 dX3_credited_0 rfl rfl ?_
  refine j_get X fG_RX3_32 (hput_k 3 (by decide)) rfl rfl dX3_credited_1 ?_
  refine j_iload_n X 1 dX3_credited_4 rfl rfl ?_
  refine j_bipush X (v := 11) dX3_credited_5 (by decide) ?_
  refine j_imul X dX3_credited_7 ?_
  refine j_iload_n X 2 dX3_credited_8 rfl rfl ?_
  refine j_iadd X dX3_credited_9 ?_
  refine j_callVi X (rest := []) (s_at6 l) m_yX5_at kM_RX3_43 (hput_k 14 (by decide)) rfl rfl rfl rfl rfl (Nat.le_of_ble_eq_true rfl) ⟨Nat.le_of_ble_eq_true rfl, Nat.le_of_ble_eq_true rfl, Nat.le_of_ble_eq_true rfl, Nat.le_of_ble_eq_true rfl⟩ dX3_credited_10 ?_
  exact j_iret X hr rfl (by first | with_reducible rfl | (simp only [pCredited]; done) | (simp only [pCredited]; rfl) | rfl) rfl (by first | with_reducible rfl | (simp only [pCredited]; done) | (simp only [pCredited]; rfl) | rfl) dX3_credited_13
set_option maxRecDepth 100000 in
set_option maxHeartbeats 8000000 in
theorem c_X3_allCameIn (l : Launch) {D : DD} {B z : Nat} {h : HF} {a : Nat} {σ : St}  : CT l yX3_allCameIn cX3_allCameIn 3 (some .int) 2 43 [.ref (a + 3)] D B z (hput D h a σ) (some (.int (pAll σ 8))) 0 0 (hput D h a σ) := by
  refine CT.of (L := [(0, .ref (a + 3))]) (by decide +kernel) (Nat.le_of_ble_eq_true rfl) rfl ?_
  intro P E S0 M0 AR BL ME CO X hr hnm
  refine j_iconst X (v := 0) dX3_allCameIn_0 (by decide) ?_
  refine j_istore_n X (L' := [(1, .int 0), (0, .ref (a + 3))]) dX3_allCameIn_1 rfl (by decide) rfl ?_
  refine j_iconst X (v := 0) dX3_allCameIn_2 (by decide) ?_
  refine j_istore_n X (L' := [(2, .int 0), (1, .int 0), (0, .ref (a + 3))]) dX3_allCameIn_3 rfl (by decide) rfl ?_
  have loop4 : ∀ (n k : Nat), k + n = 8 → J P l E { frames := 2, cells := 0, slots := 0, locals := 43 } S0 M0 AR BL ME CO D B 3 (MQ BL (QC (some (.int (pAll σ 8))) D B (z + 0) (hput D h a σ)) AR S0 0 0 (aB B)) 0 0 z (hput D h a σ) [(0, .ref (a + 3)), (1, .int (pAll σ k)), (2, .int (nI k))] [] 4 := by
    intro n
    induction n with
    | zero =>
      intro k hk
      obtain rfl : k = 8 := by omega
      refine j_iload_n X 2 dX3_allCameIn_4 rfl rfl ?_
      refine j_bipush X (v := 8) dX3_allCameIn_5 (by decide) ?_
      refine j_icmp_ge X (tgt := 25) dX3_allCameIn_7 (by decide) (fun c_7 => ?_) (fun c_7 => absurd c_7 (by decide))
      refine j_iload_n X 1 dX3_allCameIn_25 rfl rfl ?_
      exact j_iret X hr rfl (by first | with_reducible rfl | (simp only [pAll, if_neg c_7]; done) | (simp only [pAll, if_neg c_7]; rfl) | rfl) rfl (by first | with_reducible rfl | (simp only [pAll, if_neg c_7]; done) | (simp only [pAll, if_neg c_7]; rfl) | rfl) dX3_allCameIn_26
    | succ n ih =>
      intro k hk
      have hlt : nI k < 8 := nlt_lit (b := 8) (by omega) (by decide)
      refine j_iload_n X 2 dX3_allCameIn_4 rfl rfl ?_
      refine j_bipush X (v := 8) dX3_allCameIn_5 (by decide) ?_
      refine j_icmp_ge X (tgt := 25) dX3_allCameIn_7 (by decide) (fun c_7 => absurd hlt c_7) (fun c_7 => ?_)
      refine j_iload_n X 1 dX3_allCameIn_10 rfl rfl ?_
      refine j_aload_n X 0 dX3_allCameIn_11 rfl rfl ?_
      refine j_iload_n X 2 dX3_allCameIn_12 rfl rfl ?_
      refine j_iconst X (v := 0) dX3_allCameIn_13 (by decide) ?_
      refine j_callVi X (rest := [.int (pAll σ k)]) (c_X3_credited l) m_yX3_credited kM_RX3_58 (hput_k 3 (by decide)) rfl rfl rfl rfl rfl (Nat.le_of_ble_eq_true rfl) ⟨Nat.le_of_ble_eq_true rfl, Nat.le_of_ble_eq_true rfl, Nat.le_of_ble_eq_true rfl, Nat.le_of_ble_eq_true rfl⟩ dX3_allCameIn_14 ?_
      refine j_iadd X dX3_allCameIn_17 ?_
      refine j_tops (fun v1 ev1 => ?_)
      refine j_istore_n X (L' := [(1, .int v1), (0, .ref (a + 3)), (2, .int (nI k))]) dX3_allCameIn_18 rfl (by decide) rfl ?_
      obtain ⟨v2, ev2⟩ : ∃ y : Int32, (nI k) + 1 = y := ⟨_, rfl⟩
      refine j_iinc X 2 (k := 1) (v := v2) (L' := [(2, .int v2), (1, .int v1), (0, .ref (a + 3))]) dX3_allCameIn_19 rfl (by decide) (by decide) ev2 rfl ?_
      refine j_goto X (tgt := 4) dX3_allCameIn_22 (by decide) ?_
      refine j_sub [2, 1, 0] (L' := [(0, .ref (a + 3)), (1, .int (pAll σ (k + 1))), (2, .int (nI (k + 1)))]) (by subst ev2 ev1; first | with_reducible rfl | (simp only [pAll, nI_0, nI_succ k, if_pos c_7]; done) | (simp only [pAll, nI_0, nI_succ k, if_pos c_7]; rfl) | rfl) ?_
      exact ih (k + 1) (by omega)
  refine j_sub [2, 1, 0] (L' := [(0, .ref (a + 3)), (1, .int (pAll σ 0)), (2, .int (nI 0))]) (by first | with_reducible rfl | (simp only [pAll, nI_0]; done) | (simp only [pAll, nI_0]; rfl) | rfl) ?_
  exact loop4 8 0 rfl
set_option maxRecDepth 100000 in
set_option maxHeartbeats 8000000 in
theorem c_X3_endSecond (l : Launch) {D : DD} {B z : Nat} {h : HF} {a : Nat} {σ : St}  : CT l yX3_endSecond cX3_endSecond 2 none 3 69 [.ref (a + 3)] D B z (hput D h a σ) none 0 0 (hput D h a (pEndSec σ)) := by
  refine CT.of (L := [(0, .ref (a + 3))]) (by decide +kernel) (Nat.le_of_ble_eq_true rfl) rfl ?_
  intro P E S0 M0 AR BL ME CO X hr hnm
  refine j_iconst X (v := 0) dX3_endSecond_0 (by decide) ?_
  refine j_istore_n X (L' := [(1, .int 0), (0, .ref (a + 3))]) dX3_endSecond_1 rfl (by decide) rfl ?_
  have loop2 : ∀ (n k : Nat), k + n = 8 → J P l E { frames := 3, cells := 0, slots := 0, locals := 69 } S0 M0 AR BL ME CO D B 2 (MQ BL (QC none D B (z + 0) (hput D h a (pEndSec σ))) AR S0 0 0 (aB B)) 0 0 z (hput D h a (pDec σ k)) [(0, .ref (a + 3)), (1, .int (nI k))] [] 2 := by
    intro n
    induction n with
    | zero =>
      intro k hk
      obtain rfl : k = 8 := by omega
      refine j_iload_n X 1 dX3_endSecond_2 rfl rfl ?_
      refine j_bipush X (v := 8) dX3_endSecond_3 (by decide) ?_
      refine j_icmp_ge X (tgt := 34) dX3_endSecond_5 (by decide) (fun c_5 => ?_) (fun c_5 => absurd c_5 (by decide))
      refine j_aload_n X 0 dX3_endSecond_34 rfl rfl ?_
      refine j_get X fG_RX3_29 (hput_k 3 (by decide)) rfl rfl dX3_endSecond_35 ?_
      refine j_iconst X (v := 0) dX3_endSecond_38 (by decide) ?_
      refine j_bipush X (v := 8) dX3_endSecond_39 (by decide) ?_
      refine j_iconst X (v := 0) dX3_endSecond_41 (by decide) ?_
      refine j_callVv X (rest := []) (s_fill5 l) m_yX5_fill kM_RX3_35 (hput_k 12 (by decide)) rfl rfl rfl rfl rfl (Nat.le_of_ble_eq_true rfl) ⟨Nat.le_of_ble_eq_true rfl, Nat.le_of_ble_eq_true rfl, Nat.le_of_ble_eq_true rfl, Nat.le_of_ble_eq_true rfl⟩ dX3_endSecond_42 ?_
      exact j_vret X hr rfl (by first | with_reducible rfl | (simp only [pEndSec, pDec, if_neg c_5]; done) | (simp only [pEndSec, pDec, if_neg c_5]; rfl) | rfl) dX3_endSecond_45
    | succ n ih =>
      intro k hk
      have hlt : nI k < 8 := nlt_lit (b := 8) (by omega) (by decide)
      refine j_iload_n X 1 dX3_endSecond_2 rfl rfl ?_
      refine j_bipush X (v := 8) dX3_endSecond_3 (by decide) ?_
      refine j_icmp_ge X (tgt := 34) dX3_endSecond_5 (by decide) (fun c_5 => absurd hlt c_5) (fun c_5 => ?_)
      refine j_aload_n X 0 dX3_endSecond_8 rfl rfl ?_
      refine j_get X fG_RX3_20 (hput_k 3 (by decide)) rfl rfl dX3_endSecond_9 ?_
      refine j_iload_n X 1 dX3_endSecond_12 rfl rfl ?_
      refine j_callVi X (rest := []) (s_at2 l) m_yX5_at kM_RX3_43 (hput_k 6 (by decide)) rfl rfl rfl rfl rfl (Nat.le_of_ble_eq_true rfl) ⟨Nat.le_of_ble_eq_true rfl, Nat.le_of_ble_eq_true rfl, Nat.le_of_ble_eq_true rfl, Nat.le_of_ble_eq_true rfl⟩ dX3_endSecond_13 ?_
      refine j_if_le X (tgt := 28) dX3_endSecond_16 (by decide) (fun c_16 => ?_) (fun c_16 => ?_)
      · obtain ⟨v1, ev1⟩ : ∃ y : Int32, (nI k) + 1 = y := ⟨_, rfl⟩
        refine j_iinc X 1 (k := 1) (v := v1) (L' := [(1, .int v1), (0, .ref (a + 3))]) dX3_endSecond_28 rfl (by decide) (by decide) ev1 rfl ?_
        refine j_goto X (tgt := 2) dX3_endSecond_31 (by decide) ?_
        refine j_sub [1, 0] (L' := [(0, .ref (a + 3)), (1, .int (nI (k + 1)))]) (by subst ev1; first | with_reducible rfl | (simp only [pDec, nI_0, nI_succ k, if_pos c_5, if_neg c_16]; done) | (simp only [pDec, nI_0, nI_succ k, if_pos c_5, if_neg c_16]; rfl) | rfl) ?_
        refine j_heap (h' := hput D h a (pDec σ (k + 1))) (by subst ev1; first | with_reducible rfl | (simp only [pDec, nI_0, nI_succ k, if_pos c_5, if_neg c_16]; done) | (simp only [pDec, nI_0, nI_succ k, if_pos c_5, if_neg c_16]; rfl) | rfl) ?_
        exact ih (k + 1) (by omega)
      · refine j_aload_n X 0 dX3_endSecond_19 rfl rfl ?_
        refine j_get X fG_RX3_20 (hput_k 3 (by decide)) rfl rfl dX3_endSecond_20 ?_
        refine j_iload_n X 1 dX3_endSecond_23 rfl rfl ?_
        refine j_iconst X (v := (-1)) dX3_endSecond_24 (by decide) ?_
        refine j_callVv X (rest := []) (s_add2 l) m_yX5_add kM_RX3_55 (hput_k 6 (by decide)) rfl rfl rfl rfl rfl (Nat.le_of_ble_eq_true rfl) ⟨Nat.le_of_ble_eq_true rfl, Nat.le_of_ble_eq_true rfl, Nat.le_of_ble_eq_true rfl, Nat.le_of_ble_eq_true rfl⟩ dX3_endSecond_25 ?_
        obtain ⟨v2, ev2⟩ : ∃ y : Int32, (nI k) + 1 = y := ⟨_, rfl⟩
        refine j_iinc X 1 (k := 1) (v := v2) (L' := [(1, .int v2), (0, .ref (a + 3))]) dX3_endSecond_28 rfl (by decide) (by decide) ev2 rfl ?_
        refine j_goto X (tgt := 2) dX3_endSecond_31 (by decide) ?_
        refine j_sub [1, 0] (L' := [(0, .ref (a + 3)), (1, .int (nI (k + 1)))]) (by subst ev2; first | with_reducible rfl | (simp only [pDec, nI_0, nI_succ k, if_pos c_5, if_pos c_16]; done) | (simp only [pDec, nI_0, nI_succ k, if_pos c_5, if_pos c_16]; rfl) | rfl) ?_
        refine j_heap (h' := hput D h a (pDec σ (k + 1))) (by subst ev2; first | with_reducible rfl | (simp only [pDec, nI_0, nI_succ k, if_pos c_5, if_pos c_16]; done) | (simp only [pDec, nI_0, nI_succ k, if_pos c_5, if_pos c_16]; rfl) | rfl) ?_
        exact ih (k + 1) (by omega)
  refine j_sub [1, 0] (L' := [(0, .ref (a + 3)), (1, .int (nI 0))]) (by first | with_reducible rfl | (simp only [pDec, nI_0]; done) | (simp only [pDec, nI_0]; rfl) | rfl) ?_
  refine j_heap (h' := hput D h a (pDec σ 0)) (by first | with_reducible rfl | (simp only [pDec, nI_0]; done) | (simp only [pDec, nI_0]; rfl) | rfl) ?_
  exact loop2 8 0 rfl
