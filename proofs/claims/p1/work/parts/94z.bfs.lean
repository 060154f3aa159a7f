-- ===== rows of cells in the order in which they are met =====
def tq (T k : Nat) : Nat := T / 512 ^ k % 512
def qM (n : Nat) : Nat := if n = 0 then 1 else if n = 1 then 6 else if n = 2 then 63 else 238
def qQ (n k : Nat) : Nat := tq (if n = 0 then 0 else if n = 1 then 4260059546650625 else if n = 2 then 228548529564826973670004789722036534364624915960205420278705593488827934033706869334181451692815079653573743677691123376618408353093455676962788338974339344215787429962245 else 454682715956243734543444868502696276537285481178458404904016804916005725329082406552016890800776220093956121981457949813001494736766893429003111596056191412889187725868215433432170456935869674955820103846984049903119717799137787619712804727545337821765810395799142359925583751957654566562552412688093501799721378966488287417768550298593164532061091778522964771094829313861264320840301420140159672524713163566122830973883582629225272742892715802243470505934848727326641675498446127700470020144449934310382764649201087770231069077241351734542930512890777906771354054175217099805962957722116402400594090858235380711024137151473624724947882745295378) k
def qP (n k : Nat) : Nat := tq (if n = 0 then 0 else if n = 1 then 140943781003264 else if n = 2 then 51031568166403465217740404336066035717724185092110822872280919366029581408478407079840259564231841770778830579243594295477961450397665308072689011707311715229210731610112 else 266787575416230502106500553738382572659614969394954192823438927768143543154411265023851756136955313733491631275446440737247493758009940045506562151583686956725993361267118275272037512333953295165633295905904482098989192126557499718484856193423659742616505803819100044018817850000692464867307963098332953983316134803484902433567647364837604740835045559899581389589490577476359195851929937642629315455245991883181586001607614597280390431927645833760264344373314254984044629595461477977709782808525608052996535701074600777332198859227381805831869688421595112618207583884081610241939638407204575756840950741960153815493315691656248393116144998809600) k
def qT (n k : Nat) : Nat := tq (if n = 0 then 0 else if n = 1 then 262144 else if n = 2 then 7226407741885146712017129182556443270928205725501657480329587767978085115545045151850797463221698180235233326268776070948780758551798079665150255567382220363792384 else 4902703104446321606158739031159605279748581283142018575529525637663731654173501443302176715861056624112288930728797850857960221216220585033528802594649682427038884995692807022674226127516948477957858586489696961199069000172482841090146364746090330192012443475617297512769528584030021460682696682230810066810764392400724998847360905794318406994257986720215517396178292073155046590640696516299338589897653182747777530153029132774416642704818633599863847658625011255026479746323155411572748752213944467957007338387697823799158489847364977926177337249686733878793290917564577959873802082273385028566137833210622863373000021910861316727259791360) k
def qD (n k : Nat) : Nat := tq (if n = 0 then 0 else if n = 1 then 140943915483648 else if n = 2 then 4726681231175530764268799476782621021543366317100943358718398695999863147998735757544906606317073446666096124258070606502392592521688000475914986583376614089051057947136 else 7515901200564468960098378580242739324350886697504980387266563164625605194476686507313325577237596041174474783753205247572339221477729747707262268700542701693363812631429755992368430622522821421627411828105706543234810845771636308530470752393949161594180508974211510964963461633150185878630583514325232625319764411281290231347306997124313538824223131713655265626949199667638008290511784344504953302208263962031199462408659735605739362004878582453382014078664101761737714590350664965790577655646501423908828582687315390216644597373160450592008963891220922550058019958492623834421138632676557526679119440877039553079196639207098428427663676015104) k
def qI (n g : Nat) : Nat := tq (if n = 0 then 149370830337841678774793254944774600474505906961104735699619819249098622325986666303602673898790490959910132780474072897961746713346961988345510477260152941284374385545573534557679916003167004767851346913436591920041548533215161008440520873693549019392890303756398685460712455388349734977307444747912712507014852496930732988474389790449613081878962606553572550870582651207868273821611978529487464179237369406207210488204721467487527041444447269549695112151851030797970366540336467610048178739205460343774170930040401172505611639981778979361193894983750770022584011096496667220621426117911945860606298990766445090674690774044778832658006610401620758994230439785122918583643459506949453295811133636451768551666148756716442887255707592002880474325282212596671514504515121298021972548301394100251715560647618172237293960228154118751125266079788970143254083991380292395412252871360365126530275638485587159742867822421864927186224822395170137600895591201230023793898178570408106640350837210624 else if n = 1 then 149370830337841678774793254944774600474505906961104735699619819249098622325986666303602673898790490959910132780474072897961746713346961988345510477260152941284374385545573534557679916003167004767851346913436591920041548533215161008440520873693549019392890303756398685460712455388349734977307444747912712507014852496930732988474389790449613081878962606553572550870582651207868273821611978529487464179237369406207210488204721467487527041444447269549695112151851030797970366540336467610048178739205460343774170930040401172505611639981778979361193894983750770022584011096496667220621426117911945860606298990766445090674690774044778832658006610401620758994230436429170498178422562366618287525357081032116385019133227991330930766779999908182687834711808529478673612609690387583775860063147524531465306671630303007628830447436977019320701495508862726330534470700558404568787587111589398684113653056125603689780162487663035966866014994644888504470536632036533130859289123570412203487810547351554 else if n = 2 then 149370830337841678774793254944774600474505906961104735699619819249098622325986666303602673898790490959910132780474072897961746713346961988345510477260152941284374385545573534557679916003167004767851346913436591920041548533215161008440520873693549019392890303756398685460712455388349734977307444747912712507014852496930732988474370001171087776676677376810830157091647194401169093019658200207395346982658439619176219406881506061256441488971332735007306268597413887180629836132250561765699124283906064625381965597688607314468063802541162265696989531321167899114000062102550780050725536814726281480192237590215283447084392872665882591750909394541458576580322636499904963895617112220268493302343284481352431838036690295229909564145567483217575130358862609823394514753903115403003562655337625231587421005198812085373915878771046861418662758728573163488151101396804476204069989258960550166051035077759470897031829838439764887249308232827841372486798760103701026807471648002043843319461334746122 else 69276504123198747701314482192454899028136214414985585819522770823101280077779336196887165910917790320026894925220304032225706234118239013434795274012167254991481159948124146943687847379639026820348946189154795196327163904261973490129335619952827687536215550366295267416750205604926993625608462364979386875199386091444062095998776920769951511646249782670718438719031367059028230479111298835078101308998220503055438040219578891311427857877076876405497219081083564815049497112107244868179888629617068060544717502056252097874124923508270541689381013560321434049279337805212732350083153373219183792253079483877359824104308964827546180729536180001307686720249232768351479225180459366490904201400974776839203787296523415308286629835962639827095163855219396192332074572604301511242521556829541902209069462437749952388568752404679198314721702952902723402387309257339510803475099955035573097924341190221380620339068042323196741471061681752984251547804506666548863299412064823378677160696088106536) g
def sN (n : Nat) : Nat := if n = 0 then 0 else if n = 1 then 1 else if n = 2 then 12 else 123
def keyq (n k : Nat) : Nat := 7 * qP n k + qT n k
def ckA (n k : Nat) : Bool := decide (qQ n k < 364 ∧ qI n (qQ n k) = k ∧ qD n k < 15 ∧ (k = 0 ∨ (qP n k < k ∧ qT n k < 7 ∧ shN (vE (qQ n (qP n k))) (qT n k) = vE (qQ n k) ∧ qD n k = qD n (qP n k) + 1 ∧ (k = 1 ∨ keyq n (k - 1) < keyq n k))))
def ckB (n k t : Nat) : Bool := decide (shN (vE (qQ n k)) t = 100000 ∨ (qI n (vR (shN (vE (qQ n k)) t)) < qM n ∧ vE (qQ n (qI n (vR (shN (vE (qQ n k)) t)))) = shN (vE (qQ n k)) t ∧ (qI n (vR (shN (vE (qQ n k)) t)) = 0 ∨ keyq n (qI n (vR (shN (vE (qQ n k)) t))) ≤ 7 * k + t) ∧ qD n (qI n (vR (shN (vE (qQ n k)) t))) ≤ qD n k + 1))
def ckC (n : Nat) : Bool := decide (vE (qQ n 0) = sN n ∧ qD n 0 = 0 ∧ 1 ≤ qM n ∧ qM n ≤ 364) && (List.range (qM n)).all (fun k => ckA n k && (List.range 7).all (fun t => ckB n k t))
def ckE (n : Nat) : Bool := (List.range 364).all (fun g => decide (qI n g < qM n → qQ n (qI n g) = g))
set_option maxRecDepth 100000 in
theorem ckC_all : (List.range 4).all ckC = true := by decide +kernel
set_option maxRecDepth 100000 in
theorem ckE_all : (List.range 4).all ckE = true := by decide +kernel
theorem q_C {n : Nat} (hn : n < 4) : ckC n = true := List.all_eq_true.mp ckC_all n (List.mem_range.mpr hn)
theorem q_0 {n : Nat} (hn : n < 4) : vE (qQ n 0) = sN n ∧ qD n 0 = 0 ∧ 1 ≤ qM n ∧ qM n ≤ 364 := by
  have c := q_C hn
  unfold ckC at c
  rw [Bool.and_eq_true] at c
  exact of_decide_eq_true c.1
theorem q_k {n k : Nat} (hn : n < 4) (hk : k < qM n) : ckA n k = true ∧ (List.range 7).all (fun t => ckB n k t) = true := by
  have c := q_C hn
  unfold ckC at c
  rw [Bool.and_eq_true] at c
  have c2 : (ckA n k && (List.range 7).all (fun t => ckB n k t)) = true := List.all_eq_true.mp c.2 k (List.mem_range.mpr hk)
  rw [Bool.and_eq_true] at c2
  exact c2
theorem q_A {n k : Nat} (hn : n < 4) (hk : k < qM n) : qQ n k < 364 ∧ qI n (qQ n k) = k ∧ qD n k < 15 ∧ (k = 0 ∨ (qP n k < k ∧ qT n k < 7 ∧ shN (vE (qQ n (qP n k))) (qT n k) = vE (qQ n k) ∧ qD n k = qD n (qP n k) + 1 ∧ (k = 1 ∨ keyq n (k - 1) < keyq n k))) := by
  have c := (q_k hn hk).1
  unfold ckA at c
  exact of_decide_eq_true c
theorem q_next {n k t : Nat} (hn : n < 4) (hk : k < qM n) (ht : t < 7) (hne : shN (vE (qQ n k)) t ≠ 100000) : ∃ m, m < qM n ∧ vE (qQ n m) = shN (vE (qQ n k)) t ∧ (m = 0 ∨ keyq n m ≤ 7 * k + t) ∧ qD n m ≤ qD n k + 1 := by
  have c : ckB n k t = true := List.all_eq_true.mp (q_k hn hk).2 t (List.mem_range.mpr ht)
  unfold ckB at c
  have c2 := (of_decide_eq_true c).resolve_left hne
  exact ⟨_, c2⟩
theorem q_E {n g : Nat} (hn : n < 4) (hg : g < 364) (h : qI n g < qM n) : qQ n (qI n g) = g := by
  have c : ckE n = true := List.all_eq_true.mp ckE_all n (List.mem_range.mpr hn)
  unfold ckE at c
  have c2 : decide (qI n g < qM n → qQ n (qI n g) = g) = true := List.all_eq_true.mp c g (List.mem_range.mpr hg)
  exact of_decide_eq_true c2 h
theorem q_mono {n : Nat} (hn : n < 4) {a : Nat} (ha : 1 ≤ a) : ∀ b, a < b → b < qM n → keyq n a < keyq n b
  | 0, h, _ => by omega
  | b + 1, h, hb => by
    rcases (q_A hn hb).2.2.2 with A | A
    · omega
    · rcases A.2.2.2.2 with B | B
      · omega
      · rw [Nat.add_sub_cancel] at B
        by_cases q : a = b
        · rw [q]; exact B
        · have ih := q_mono hn ha b (by omega) (by omega)
          omega
theorem q_inj {n a b : Nat} (hn : n < 4) (ha : a < qM n) (hb : b < qM n) (e : qQ n a = qQ n b) : a = b := by
  have h1 := (q_A hn ha).2.1
  have h2 := (q_A hn hb).2.1
  rw [← h1, ← h2, e]
theorem vE_le {i : Nat} (hi : i < 364) : vE i ≤ 99999 := by
  have := V_rng (v := ((vE i : Nat) : Int)) ⟨i, hi, rfl⟩
  omega
theorem vR_vE {i : Nat} (hi : i < 364) : vR (vE i) = i := by
  have c := chk_of hi (t := 0) (by decide)
  simp only [chk, Bool.and_eq_true, decide_eq_true_eq] at c
  exact Nat.eq_of_beq_eq_true c.1.2
theorem q_reach {n : Nat} (hn : n < 4) : ∀ p : List Nat, pvd (sN n) p → ∃ k, k < qM n ∧ pth (sN n) p = vE (qQ n k) ∧ qD n k ≤ p.length
  | [], _ => ⟨0, (q_0 hn).2.2.1, (q_0 hn).1.symm, by rw [(q_0 hn).2.1]; exact Nat.zero_le _⟩
  | t :: p, h => by
    obtain ⟨k, hk, e, hd⟩ := q_reach hn p h.1
    have ht := h.2.1
    have hne := h.2.2
    rw [e] at hne
    obtain ⟨m, hm, em, -, dm⟩ := q_next hn hk ht hne
    refine ⟨m, hm, ?_, ?_⟩
    · show shN (pth (sN n) p) t = _
      rw [e, em]
    · rw [List.length_cons]; omega
theorem q_path {n : Nat} (hn : n < 4) : ∀ f k : Nat, k ≤ f → k < qM n → ∃ p, pvd (sN n) p ∧ pth (sN n) p = vE (qQ n k) ∧ p.length = qD n k
  | 0, k, hf, hk => by
    have e : k = 0 := by omega
    subst e
    exact ⟨[], trivial, (q_0 hn).1.symm, (q_0 hn).2.1.symm⟩
  | f + 1, k, hf, hk => by
    have A0 := q_A hn hk
    rcases A0.2.2.2 with A | A
    · subst A
      exact ⟨[], trivial, (q_0 hn).1.symm, (q_0 hn).2.1.symm⟩
    · obtain ⟨p, p1, p2, p3⟩ := q_path hn f (qP n k) (by omega) (by omega)
      have v := vE_le A0.1
      refine ⟨qT n k :: p, ⟨p1, A.2.1, ?_⟩, ?_, ?_⟩
      · rw [p2, A.2.2.1]; omega
      · show shN (pth (sN n) p) (qT n k) = _
        rw [p2]; exact A.2.2.1
      · rw [List.length_cons, p3]; exact A.2.2.2.1.symm
-- ===== the task =====
def okd (n r : Int) : Prop := r = 0 ∨ (1 ≤ r % 10 ∧ r % 10 ≤ n ∧ (r / 10 = 0 ∨ (1 ≤ r / 10 % 10 ∧ r / 10 % 10 ≤ n ∧ (r / 100 = 0 ∨ (1 ≤ r / 100 % 10 ∧ r / 100 % 10 ≤ n ∧ (r / 1000 = 0 ∨ (1 ≤ r / 1000 ∧ r / 1000 ≤ n)))))))
def TK (n r : Int) : Prop := (0 ≤ n ∧ n ≤ 3) ∧ (0 ≤ r ∧ r ≤ 9999) ∧ okd n r
def tkB (n r : Int) : Bool := decide ((0 ≤ n ∧ n ≤ 3) ∧ (0 ≤ r ∧ r ≤ 9999) ∧ (r = 0 ∨ (1 ≤ r % 10 ∧ r % 10 ≤ n ∧ (r / 10 = 0 ∨ (1 ≤ r / 10 % 10 ∧ r / 10 % 10 ≤ n ∧ (r / 100 = 0 ∨ (1 ≤ r / 100 % 10 ∧ r / 100 % 10 ≤ n ∧ (r / 1000 = 0 ∨ (1 ≤ r / 1000 ∧ r / 1000 ≤ n)))))))))
theorem tkB_iff {n r : Int} : tkB n r = true ↔ TK n r := by
  unfold tkB TK okd
  exact decide_eq_true_iff
/-- how many SHUFFLES the shortest row has; none: -1 -/
def XT (n r : Int) : Int := if tkB n r = true ∧ qI n.toNat (vR r.toNat) < qM n.toNat then ((qD n.toNat (qI n.toNat (vR r.toNat)) : Nat) : Int) else -1
def ckV (a b c e : Nat) : Bool := decide ((a = 0 ∨ b ≠ 0) ∧ (b = 0 ∨ c ≠ 0) ∧ (c = 0 ∨ e ≠ 0) → vR (1000 * a + 100 * b + 10 * c + e) < 364 ∧ vE (vR (1000 * a + 100 * b + 10 * c + e)) = 1000 * a + 100 * b + 10 * c + e)
set_option maxRecDepth 100000 in
theorem ckV_all : (List.range 4).all (fun a => (List.range 4).all (fun b => (List.range 4).all (fun c => (List.range 4).all (fun e => ckV a b c e)))) = true := by decide +kernel
theorem ckV_of {a b c e : Nat} (ha : a < 4) (hb : b < 4) (hc : c < 4) (he : e < 4) : ckV a b c e = true :=
  List.all_eq_true.mp (List.all_eq_true.mp (List.all_eq_true.mp (List.all_eq_true.mp ckV_all a (List.mem_range.mpr ha)) b (List.mem_range.mpr hb)) c (List.mem_range.mpr hc)) e (List.mem_range.mpr he)
theorem TK_V {n r : Int} (h : TK n r) : V r ∧ vR r.toNat < 364 ∧ vE (vR r.toNat) = r.toNat := by
  obtain ⟨hn, hr, ho⟩ := h
  unfold okd at ho
  have c := ckV_of (a := (r / 1000).toNat) (b := (r / 100 % 10).toNat) (c := (r / 10 % 10).toNat) (e := (r % 10).toNat) (by omega) (by omega) (by omega) (by omega)
  unfold ckV at c
  have k := of_decide_eq_true c ⟨by omega, by omega, by omega⟩
  rw [show 1000 * (r / 1000).toNat + 100 * (r / 100 % 10).toNat + 10 * (r / 10 % 10).toNat + (r % 10).toNat = r.toNat by omega] at k
  exact ⟨⟨vR r.toNat, k.1, by rw [k.2]; omega⟩, k.1, k.2⟩
theorem st0_N {n : Int} (hn : 0 ≤ n ∧ n ≤ 3) : (st0 n).toNat = sN n.toNat ∧ st0 n = ((sN n.toNat : Nat) : Int) := by
  have h : n = 0 ∨ n = 1 ∨ n = 2 ∨ n = 3 := by omega
  rcases h with rfl | rfl | rfl | rfl <;> decide
theorem XT_in {n r : Int} (T : TK n r) {k : Nat} (hk : k < qM n.toNat) (e : vE (qQ n.toNat k) = r.toNat) : XT n r = ((qD n.toNat k : Nat) : Int) := by
  have hn : n.toNat < 4 := by have := T.1; omega
  have A := q_A hn hk
  have e2 : qI n.toNat (vR r.toNat) = k := by rw [← e, vR_vE A.1]; exact A.2.1
  unfold XT
  rw [e2, if_pos ⟨tkB_iff.mpr T, hk⟩]
theorem XT_out {n r : Int} (h : TK n r → ∀ k, k < qM n.toNat → vE (qQ n.toNat k) ≠ r.toNat) : -1 = XT n r := by
  unfold XT
  rw [if_neg]
  intro q
  have T := tkB_iff.mp q.1
  have v := TK_V T
  have hn : n.toNat < 4 := by have := T.1; omega
  refine h T _ q.2 ?_
  rw [q_E hn v.2.1 q.2]
  exact v.2.2
/-- the answer is the least number of SHUFFLES by which it comes so -/
theorem XT_of {n r : Int} (T : TK n r) {p : List Nat} (p1 : pvd (st0 n).toNat p) (p2 : r = ((pth (st0 n).toNat p : Nat) : Int)) (mn : ∀ q, pvd (st0 n).toNat q → ((pth (st0 n).toNat q : Nat) : Int) = r → p.length ≤ q.length) : ((p.length : Nat) : Int) = XT n r := by
  have hn : n.toNat < 4 := by have := T.1; omega
  have es := (st0_N T.1).1
  rw [es] at p1 p2 mn
  obtain ⟨k, hk, e, hd⟩ := q_reach hn p p1
  obtain ⟨q, q1, q2, q3⟩ := q_path hn k k (Nat.le_refl k) hk
  have m := mn q q1 (by rw [p2, q2, e])
  rw [XT_in T hk (by rw [p2, ← e]; omega)]
  omega
theorem XT_none {n r : Int} (h : ¬ TK n r ∨ ∀ p : List Nat, pvd (st0 n).toNat p → p.length ≤ 15 → ((pth (st0 n).toNat p : Nat) : Int) ≠ r) : -1 = XT n r := by
  refine XT_out (fun T k hk e => ?_)
  have hn : n.toNat < 4 := by have := T.1; omega
  have h2 := h.resolve_left (fun q => q T)
  have es := (st0_N T.1).1
  rw [es] at h2
  obtain ⟨q, q1, q2, q3⟩ := q_path hn k k (Nat.le_refl k) hk
  have A := q_A hn hk
  have hr := T.2.1
  refine h2 q q1 (by omega) ?_
  rw [q2, e]
  omega
-- ===== the reference's side =====
def IK (n r k : Int) : Prop := k = r ∨ (k = r / 10 ∧ 1 ≤ r % 10 ∧ r % 10 ≤ n) ∨ (k = r / 100 ∧ (1 ≤ r % 10 ∧ r % 10 ≤ n) ∧ 1 ≤ r / 10 % 10 ∧ r / 10 % 10 ≤ n) ∨ (k = r / 1000 ∧ (1 ≤ r % 10 ∧ r % 10 ≤ n) ∧ (1 ≤ r / 10 % 10 ∧ r / 10 % 10 ≤ n) ∧ 1 ≤ r / 100 % 10 ∧ r / 100 % 10 ≤ n) ∨ (k = 0 ∧ (1 ≤ r % 10 ∧ r % 10 ≤ n) ∧ (1 ≤ r / 10 % 10 ∧ r / 10 % 10 ≤ n) ∧ (1 ≤ r / 100 % 10 ∧ r / 100 % 10 ≤ n) ∧ 1 ≤ r / 1000 ∧ r / 1000 ≤ n)
theorem IK_step {n r k : Int} (hr : 0 ≤ r ∧ r ≤ 9999) (I : IK n r k) (hk : 0 < k) (hd : 1 ≤ k % 10 ∧ k % 10 ≤ n) : IK n r (k / 10) := by
  rcases I with I | I | I | I | I
  · exact Or.inr (Or.inl ⟨by omega, by omega, by omega⟩)
  · exact Or.inr (Or.inr (Or.inl ⟨by omega, by omega, by omega, by omega⟩))
  · exact Or.inr (Or.inr (Or.inr (Or.inl ⟨by omega, by omega, by omega, by omega, by omega⟩)))
  · exact Or.inr (Or.inr (Or.inr (Or.inr ⟨by omega, by omega, by omega, by omega, by omega, by omega⟩)))
  · omega
theorem IK_bad {n r k : Int} (hr : 0 ≤ r ∧ r ≤ 9999) (I : IK n r k) (hk : 0 < k) (hd : ¬ (1 ≤ k % 10 ∧ k % 10 ≤ n)) : ¬ okd n r := by
  intro o
  unfold okd at o
  rcases I with I | I | I | I | I
  · subst I; rcases o with o | o; omega; exact hd ⟨o.1, o.2.1⟩
  · obtain ⟨I, -⟩ := I; rcases o with o | ⟨-, -, o⟩; omega; rcases o with o | ⟨o1, o2, -⟩; omega; rw [I] at hd; exact hd ⟨o1, o2⟩
  · obtain ⟨I, -⟩ := I; rcases o with o | ⟨-, -, o⟩; omega; rcases o with o | ⟨-, -, o⟩; omega; rcases o with o | ⟨o1, o2, -⟩; omega; rw [I] at hd; exact hd ⟨o1, o2⟩
  · obtain ⟨I, -⟩ := I; rcases o with o | ⟨-, -, o⟩; omega; rcases o with o | ⟨-, -, o⟩; omega; rcases o with o | ⟨-, -, o⟩; omega; rcases o with o | ⟨o1, o2⟩; omega; (have e : k % 10 = r / 1000 := by omega); rw [e] at hd; exact hd ⟨o1, o2⟩
  · omega
theorem IK_end {n r k : Int} (I : IK n r k) (h0 : 0 ≤ k) (hk : k ≤ 0) : okd n r := by
  have e : k = 0 := by omega
  subst e
  unfold okd
  rcases I with I | ⟨a, b⟩ | ⟨a, b, c⟩ | ⟨a, b, c, f⟩ | ⟨a, b, c, f, g⟩
  · exact Or.inl I.symm
  · exact Or.inr ⟨b.1, b.2, Or.inl a.symm⟩
  · exact Or.inr ⟨b.1, b.2, Or.inr ⟨c.1, c.2, Or.inl a.symm⟩⟩
  · exact Or.inr ⟨b.1, b.2, Or.inr ⟨c.1, c.2, Or.inr ⟨f.1, f.2, Or.inl a.symm⟩⟩⟩
  · exact Or.inr ⟨b.1, b.2, Or.inr ⟨c.1, c.2, Or.inr ⟨f.1, f.2, Or.inr g⟩⟩⟩
theorem FX_path {h : sw_H} {s : Int} (P : SP h s 364 0) (W : WG h) (F : ∀ k : Nat, (k : Int) < h 224 79 → FXk h k) (hs : s = 0 ∨ s = 1 ∨ s = 12 ∨ s = 123) : ∀ p : List Nat, pvd s.toNat p → ∃ k : Nat, (k : Int) < h 224 79 ∧ h 270 k = ((pth s.toNat p : Nat) : Int) ∧ h 271 0 ≤ ((wt (fun t => (h 273 t).toNat) p : Nat) : Int) + h 271 k
  | [], _ => by
    refine ⟨0, by have := P.1; omega, ?_, ?_⟩
    · have e := P.2.2.1
      rw [e]
      show s = ((s.toNat : Nat) : Int)
      omega
    · simp only [wt]
      omega
  | t :: p, hp => by
    obtain ⟨hp1, ht, hne⟩ := hp
    obtain ⟨k, hk, e, hw⟩ := FX_path P W F hs p hp1
    have hV := V_rng (P.2.2.2.1 k hk)
    have eT : (h 270 k).toNat = pth s.toNat p := by omega
    have eI : shI (h 270 k) t = ((shN (pth s.toNat p) t : Nat) : Int) := by
      unfold shI
      rw [eT, show ((t : Nat) : Int).toNat = t by omega, if_neg hne]
    have hA := (P.2.2.2.2.2 k t ht (by have := P.2.1; omega) hk).2 (by rw [eI]; omega)
    have hF := F k hk t ht hA.1
    have w1 := W t ht
    refine ⟨(h 272 (7 * k + t)).toNat, by omega, by rw [hA.2.2, eI]; rfl, ?_⟩
    simp only [wt]
    omega
theorem SP_path {h : sw_H} {s : Int} (P : SP h s 364 0) (hs : s = 0 ∨ s = 1 ∨ s = 12 ∨ s = 123) : ∀ p : List Nat, pvd s.toNat p → ∃ k : Nat, (k : Int) < h 224 79 ∧ h 270 k = ((pth s.toNat p : Nat) : Int)
  | [], _ => by
    refine ⟨0, by have := P.1; omega, ?_⟩
    have e := P.2.2.1
    rw [e]
    show s = ((s.toNat : Nat) : Int)
    omega
  | t :: p, hp => by
    obtain ⟨hp1, ht, hne⟩ := hp
    obtain ⟨k, hk, e⟩ := SP_path P hs p hp1
    have hV := V_rng (P.2.2.2.1 k hk)
    have eT : (h 270 k).toNat = pth s.toNat p := by omega
    have eI : shI (h 270 k) t = ((shN (pth s.toNat p) t : Nat) : Int) := by
      unfold shI
      rw [eT, show ((t : Nat) : Int).toNat = t by omega, if_neg hne]
    have hA := (P.2.2.2.2.2 k t ht (by have := P.2.1; omega) hk).2 (by rw [eI]; omega)
    exact ⟨(h 272 (7 * k + t)).toNat, by omega, by rw [hA.2.2, eI]; rfl⟩
theorem wt_le {w : Nat → Nat} {s : Nat} (hw : ∀ t, t < 7 → w t ≤ 99001) : ∀ p : List Nat, pvd s p → wt w p ≤ 99001 * p.length
  | [], _ => Nat.zero_le _
  | t :: p, h => by
    have ih := wt_le hw p h.1
    have := hw t h.2.1
    simp only [wt, List.length_cons]
    omega
theorem wt_1 {w : Nat → Nat} {s : Nat} (hw : ∀ t, t < 7 → w t = 1) : ∀ p : List Nat, pvd s p → wt w p = p.length
  | [], _ => rfl
  | t :: p, h => by
    have ih := wt_1 hw p h.1
    have := hw t h.2.1
    simp only [wt, List.length_cons]
    omega
theorem SP_one {h : sw_H} {s : Int} (P : SP h s 364 0) {a b : Nat} (ha : (a : Int) < h 224 79) (hb : (b : Int) < h 224 79) (e : h 270 a = h 270 b) : a = b := by
  by_cases c1 : a < b
  · exact absurd e (P.2.2.2.2.1 a b c1 hb)
  · by_cases c2 : b < a
    · exact absurd e.symm (P.2.2.2.2.1 b a c2 ha)
    · omega
theorem U_none {h : sw_H} {s y : Int} (P : SP h s 364 0) (hs : s = 0 ∨ s = 1 ∨ s = 12 ∨ s = 123) (b : ∀ k : Nat, (k : Int) < h 224 79 → h 270 k ≠ y) : ∀ p : List Nat, pvd s.toNat p → p.length ≤ 15 → ((pth s.toNat p : Nat) : Int) ≠ y := by
  intro p hp _ e
  obtain ⟨k, hk, ek⟩ := SP_path P hs p hp
  exact b k hk (ek.trans e)
theorem U_far {h : sw_H} {s to y : Int} (P : SP h s 364 0) (W : WG h) (L : LV h to) (F : ∀ k : Nat, (k : Int) < h 224 79 → FXk h k) (hs : s = 0 ∨ s = 1 ∨ s = 12 ∨ s = 123) (ht : 0 ≤ to ∧ to < h 224 79) (ey : h 270 to.toNat = y) (hb : 100000000 ≤ h 271 0) : ∀ p : List Nat, pvd s.toNat p → p.length ≤ 15 → ((pth s.toNat p : Nat) : Int) ≠ y := by
  intro p hp hl e
  obtain ⟨k, hk, ek, hw⟩ := FX_path P W F hs p hp
  have ekt : k = to.toNat := SP_one P hk (by omega) (by rw [ek, e, ey])
  have l0 := (L.1 k hk).2.2.mpr (by omega)
  have w := wt_le (w := fun t => (h 273 t).toNat) (fun t ht => by have := W t ht; show (h 273 t).toNat ≤ 99001; omega) p hp
  omega
theorem LY_end {h : sw_H} {s to : Int} (R : RW h s to) {k : Int} (hk : 0 ≤ k ∧ k < h 224 79) (hz : h 271 k.toNat ≤ 0) {p : List Nat} (p1 : pvd s.toNat p) (p2 : h 270 k.toNat = ((pth s.toNat p : Nat) : Int)) (p3 : ((wt (fun t => (h 273 t).toNat) p : Nat) : Int) + h 271 k.toNat = h 271 0) {z : Int} (p4 : z = (p.length : Nat)) : ∃ p : List Nat, pvd s.toNat p ∧ h 270 to.toNat = ((pth s.toNat p : Nat) : Int) ∧ ((wt (fun t => (h 273 t).toNat) p : Nat) : Int) = h 271 0 ∧ z = ((p.length : Nat) : Int) := by
  have l := R.2.2.1.1 k.toNat (by omega)
  have e0 : h 271 k.toNat = 0 := by omega
  have et := l.2.2.mp e0
  exact ⟨p, p1, by rw [show to.toNat = k.toNat by omega]; exact p2, by omega, p4⟩
theorem RW_min {h : sw_H} {s to r : Int} (R : RW h s to) (h1 : ∀ t : Nat, t < 7 → h 273 t = 1) (ht : 0 ≤ to ∧ to < h 224 79) (er : h 270 to.toNat = r) {p : List Nat} (p1 : pvd s.toNat p) (pw : ((wt (fun t => (h 273 t).toNat) p : Nat) : Int) = h 271 0) : ∀ q : List Nat, pvd s.toNat q → ((pth s.toNat q : Nat) : Int) = r → p.length ≤ q.length := by
  intro q hq e
  obtain ⟨k, hk, ek, hw⟩ := FX_path R.1 R.2.1 R.2.2.2.1 R.2.2.2.2.1 q hq
  have ekt : k = to.toNat := SP_one R.1 hk (by omega) (by rw [ek, e, er])
  have l0 := (R.2.2.1.1 k hk).2.2.mpr (by omega)
  have a := wt_1 (w := fun t => (h 273 t).toNat) (fun t ht => by have := h1 t ht; show (h 273 t).toNat = 1; omega) p p1
  have b := wt_1 (w := fun t => (h 273 t).toNat) (fun t ht => by have := h1 t ht; show (h 273 t).toNat = 1; omega) q hq
  omega
/-- what the reference's shortest comes to -/
theorem XT_ref {h : sw_H} {n r to : Int} (T : TK n r) (R : RW h (st0 n) to) (h1 : ∀ t : Nat, t < 7 → h 273 t = 1) (ht : 0 ≤ to ∧ to < h 224 79) (er : h 270 to.toNat = r) {z : Int} (ex : ∃ p : List Nat, pvd (st0 n).toNat p ∧ h 270 to.toNat = ((pth (st0 n).toNat p : Nat) : Int) ∧ ((wt (fun t => (h 273 t).toNat) p : Nat) : Int) = h 271 0 ∧ z = ((p.length : Nat) : Int)) : z = XT n r := by
  obtain ⟨p, p1, p2, p3, p4⟩ := ex
  rw [p4]
  exact XT_of T p1 (er.symm.trans p2) (RW_min R h1 ht er p1 p3)
-- ===== the class's side =====
def rQ (n k : Nat) : Int := rowE ((vE (qQ n k) : Nat) : Int)
theorem rQ_V {n k : Nat} (hn : n < 4) (hk : k < qM n) : V ((vE (qQ n k) : Nat) : Int) := ⟨qQ n k, (q_A hn hk).1, rfl⟩
theorem rQ_rng {n k : Nat} (hn : n < 4) (hk : k < qM n) : 0 ≤ rQ n k ∧ rQ n k ≤ 1023 := (rowE_V (rQ_V hn hk)).2.1
theorem rowE_inj {v w : Int} (hv : V v) (hw : V w) (e : rowE v = rowE w) : v = w := by
  rw [← (rowE_V hv).1, ← (rowE_V hw).1, e]
theorem rQ_inj {n a b : Nat} (hn : n < 4) (ha : a < qM n) (hb : b < qM n) (e : rQ n a = rQ n b) : a = b := by
  have e1 := rowE_inj (rQ_V hn ha) (rQ_V hn hb) e
  have e2 : vE (qQ n a) = vE (qQ n b) := by omega
  have A := q_A hn ha
  have B := q_A hn hb
  refine q_inj hn ha hb ?_
  rw [← vR_vE A.1, ← vR_vE B.1, e2]
theorem cS_q {n k t : Nat} (hn : n < 4) (hk : k < qM n) (ht : t < 7) : cS (rQ n k) ((t : Nat) : Int) = if shN (vE (qQ n k)) t = 100000 then -1 else rowE ((shN (vE (qQ n k)) t : Nat) : Int) := by
  have c := cS_V (rQ_V hn hk) (t := ((t : Nat) : Int)) ⟨by omega, by omega⟩
  unfold shI at c
  rw [show ((vE (qQ n k) : Nat) : Int).toNat = vE (qQ n k) by omega, show ((t : Nat) : Int).toNat = t by omega] at c
  by_cases q : shN (vE (qQ n k)) t = 100000
  · rw [if_pos q] at c ⊢
    rw [if_pos rfl] at c
    exact c
  · rw [if_neg q] at c ⊢
    rw [if_neg (by omega)] at c
    exact c
theorem cS_to {n k t : Nat} (hn : n < 4) (hk : k < qM n) (ht : t < 7) (hz : cS (rQ n k) ((t : Nat) : Int) ≠ -1) : ∃ m, m < qM n ∧ cS (rQ n k) ((t : Nat) : Int) = rQ n m ∧ (m = 0 ∨ keyq n m ≤ 7 * k + t) := by
  have c := cS_q hn hk ht
  by_cases q : shN (vE (qQ n k)) t = 100000
  · rw [if_pos q] at c
    exact absurd c hz
  · rw [if_neg q] at c
    obtain ⟨m, hm, em, hm2, -⟩ := q_next hn hk ht q
    exact ⟨m, hm, by rw [c, ← em]; rfl, hm2⟩
theorem cS_tree {n m : Nat} (hn : n < 4) (hm : m < qM n) (h1 : 1 ≤ m) : qP n m < m ∧ qT n m < 7 ∧ cS (rQ n (qP n m)) ((qT n m : Nat) : Int) = rQ n m := by
  have A0 := q_A hn hm
  have A := A0.2.2.2.resolve_left (by omega)
  have v := vE_le A0.1
  have c := cS_q (k := qP n m) hn (by omega) A.2.1
  rw [A.2.2.1, if_neg (by omega)] at c
  exact ⟨A.1, A.2.1, c⟩
theorem cS_rQ {n : Nat} {i j : Int} (hn : n < 4) (hi : 0 ≤ i ∧ i < (qM n : Int)) (hj : 0 ≤ j ∧ j < 7) : cS (rQ n i.toNat) j = -1 ∨ (0 ≤ cS (rQ n i.toNat) j ∧ cS (rQ n i.toNat) j ≤ 1023) := by
  obtain ⟨t, rfl⟩ := Int.eq_ofNat_of_zero_le hj.1
  by_cases q : cS (rQ n i.toNat) ((t : Nat) : Int) = -1
  · exact Or.inl q
  · obtain ⟨m, hm, em, -⟩ := cS_to (k := i.toNat) (t := t) hn (by omega) (by omega) q
    have r := rQ_rng hn hm
    rw [em]
    exact Or.inr r
/-- of the rows behind the i-th those by the first j SHUFFLES are met -/
def EX (n : Nat) (h : sw_H) (i j : Int) : Prop := 1 ≤ h 182 1 ∧ h 182 1 ≤ (qM n : Int) ∧ (∀ k : Nat, (k : Int) < h 182 1 → h 183 k = rQ n k ∧ 0 ≤ h 184 (rQ n k).toNat ∧ (1 ≤ k → h 185 (rQ n k).toNat = rQ n (qP n k))) ∧ (∀ r : Nat, r ≤ 1023 → h 184 r ≠ -1 → ∃ k : Nat, (k : Int) < h 182 1 ∧ (r : Int) = rQ n k) ∧ (∀ k : Nat, 1 ≤ k → k < qM n → ((k : Int) < h 182 1 ↔ ((keyq n k : Nat) : Int) < 7 * i + j))
theorem EX_row {n : Nat} {h : sw_H} {i j : Int} (E : EX n h i j) (hj : j = 7) : EX n h (i + 1) 0 := by
  obtain ⟨a, b, c, e, f⟩ := E
  refine ⟨a, b, c, e, fun k k1 k2 => ?_⟩
  rw [f k k1 k2, hj]
  constructor <;> intro q <;> omega
theorem EX_init {n : Nat} {h h1 : sw_H} {z : Int} (hn : n < 4) (hz : z = rQ n 0) (h0 : h 182 1 = 0) (hf : ∀ k : Nat, k < 1024 → h 184 k = -1) (e1 : h1 182 1 = h 182 1 + 1) (e3 : ∀ k : Nat, h1 183 k = if (k : Int) = h 182 1 then z else h 183 k) (e4 : ∀ k : Nat, h1 184 k = if (k : Int) = z then 0 else h 184 k) : EX n h1 0 0 := by
  have q0 := q_0 hn
  have r := rQ_rng hn q0.2.2.1
  refine ⟨by omega, by omega, fun k hk => ?_, fun r' hr hv => ?_, fun k k1 k2 => ?_⟩
  · have ek : k = 0 := by omega
    subst ek
    refine ⟨?_, ?_, fun q => absurd q (by decide)⟩
    · rw [e3, if_pos (by omega)]; exact hz
    · rw [e4, if_pos (by omega)]; exact Int.le_refl 0
  · by_cases q : (r' : Int) = z
    · exact ⟨0, by omega, by rw [q]; exact hz⟩
    · rw [e4, if_neg q, hf r' (by omega)] at hv
      exact absurd rfl hv
  · constructor <;> intro q <;> omega
theorem EX_skip {n : Nat} {h : sw_H} {i j z : Int} (hn : n < 4) (E : EX n h i j) (hi : 0 ≤ i ∧ i < h 182 1) (hj : 0 ≤ j ∧ j < 7) (hz : z = cS (rQ n i.toNat) j) (hs : z = -1 ∨ h 184 z.toNat ≠ -1) : EX n h i (j + 1) := by
  obtain ⟨a, b, c, e, f⟩ := E
  refine ⟨a, b, c, e, fun k k1 k2 => ?_⟩
  have fk := f k k1 k2
  have ne : ((keyq n k : Nat) : Int) = 7 * i + j → (k : Int) < h 182 1 := by
    intro q
    obtain ⟨t1, t2, t3⟩ := cS_tree hn k2 k1
    have kd : keyq n k = 7 * qP n k + qT n k := rfl
    have ei : qP n k = i.toNat := by omega
    have ej : ((qT n k : Nat) : Int) = j := by omega
    rw [ei, ej] at t3
    have r := rQ_rng hn k2
    rcases hs with hs | hs
    · rw [← hz, hs] at t3
      omega
    · rw [hz, t3] at hs
      obtain ⟨k', hk', er⟩ := e (rQ n k).toNat (by omega) hs
      have := rQ_inj hn k2 (b := k') (by omega) (by rw [← er]; omega)
      omega
  constructor
  · intro q
    have := fk.mp q
    omega
  · intro q
    by_cases q2 : ((keyq n k : Nat) : Int) = 7 * i + j
    · exact ne q2
    · exact fk.mpr (by omega)
theorem EX_new {n : Nat} {h : sw_H} {i j z : Int} (hn : n < 4) (E : EX n h i j) (hi : 0 ≤ i ∧ i < h 182 1) (hj : 0 ≤ j ∧ j < 7) (hz : z = cS (rQ n i.toNat) j) (hne : z ≠ -1) (hv : h 184 z.toNat = -1) : (h 182 1).toNat < qM n ∧ z = rQ n (h 182 1).toNat ∧ qP n (h 182 1).toNat = i.toNat ∧ ((keyq n (h 182 1).toNat : Nat) : Int) = 7 * i + j := by
  obtain ⟨a, b, c, e, f⟩ := E
  obtain ⟨t, rfl⟩ := Int.eq_ofNat_of_zero_le hj.1
  obtain ⟨m, hm, em, hk⟩ := cS_to (k := i.toNat) (t := t) hn (by omega) (by omega) (by rw [← hz]; exact hne)
  have ezm : z = rQ n m := hz.trans em
  have hmc : h 182 1 ≤ (m : Int) := by
    by_cases q : (m : Int) < h 182 1
    · have := (c m q).2.1
      rw [← ezm, hv] at this
      omega
    · omega
  have m1 : 1 ≤ m := by omega
  have fm := f m m1 hm
  have hk2 := hk.resolve_left (by omega)
  have km : ((keyq n m : Nat) : Int) = 7 * i + (t : Int) := by
    by_cases q : ((keyq n m : Nat) : Int) < 7 * i + (t : Int)
    · have := fm.mpr q
      omega
    · omega
  have emc : (h 182 1).toNat = m := by
    by_cases q : (h 182 1).toNat < m
    · have mo := q_mono hn (a := (h 182 1).toNat) (by omega) m q hm
      have := (f (h 182 1).toNat (by omega) (by omega)).mpr (by omega)
      omega
    · omega
  obtain ⟨t1, t2, -⟩ := cS_tree hn hm m1
  have kd : keyq n m = 7 * qP n m + qT n m := rfl
  rw [emc]
  exact ⟨hm, ezm, by omega, km⟩
theorem EX_meet {n : Nat} {h h1 : sw_H} {i j z g : Int} (hn : n < 4) (E : EX n h i j) (hi : 0 ≤ i ∧ i < h 182 1) (hj : 0 ≤ j ∧ j < 7) (hz : z = cS (rQ n i.toNat) j) (hne : z ≠ -1) (hv : h 184 z.toNat = -1) (hg : g = rQ n i.toNat) (e1 : h1 182 1 = h 182 1 + 1) (e3 : ∀ k : Nat, h1 183 k = if (k : Int) = h 182 1 then z else h 183 k) (e4 : ∀ k : Nat, h1 184 k = if (k : Int) = z then j else h 184 k) (e5 : ∀ k : Nat, h1 185 k = if (k : Int) = z then g else h 185 k) : EX n h1 i (j + 1) := by
  obtain ⟨w1, w2, w3, w4⟩ := EX_new hn E hi hj hz hne hv
  obtain ⟨a, b, c, e, f⟩ := E
  have rz := rQ_rng hn w1
  refine ⟨by omega, by omega, fun k hk => ?_, fun r hr hvr => ?_, fun k k1 k2 => ?_⟩
  · by_cases q : (k : Int) = h 182 1
    · have ek : k = (h 182 1).toNat := by omega
      rw [e3, if_pos q, e4, e5, ek, ← w2, if_pos (by omega), if_pos (by omega)]
      exact ⟨rfl, by omega, fun _ => by rw [hg, w3]⟩
    · have kq : k < qM n := by omega
      have rk := rQ_rng hn kq
      have nz : ¬ (((rQ n k).toNat : Nat) : Int) = z := by
        intro q2
        have := rQ_inj hn kq w1 (by omega)
        omega
      rw [e3, if_neg q, e4, e5, if_neg nz, if_neg nz]
      exact c k (by omega)
  · by_cases q : (r : Int) = z
    · exact ⟨(h 182 1).toNat, by omega, by rw [q]; exact w2⟩
    · rw [e4, if_neg q] at hvr
      obtain ⟨k, hk, er⟩ := e r hr hvr
      exact ⟨k, by omega, er⟩
  · have fk := f k k1 k2
    constructor
    · intro q
      by_cases q2 : (k : Int) = h 182 1
      · rw [show k = (h 182 1).toNat by omega]; omega
      · have := fk.mp (by omega)
        omega
    · intro q
      by_cases q2 : (h 182 1).toNat < k
      · have := q_mono hn (a := (h 182 1).toNat) (by omega) k q2 k2
        omega
      · omega
theorem EX_all {n : Nat} {h : sw_H} {i : Int} (hn : n < 4) (E : EX n h i 0) (hi : h 182 1 ≤ i) : h 182 1 = (qM n : Int) := by
  obtain ⟨a, b, c, e, f⟩ := E
  by_cases q : h 182 1 = (qM n : Int)
  · exact q
  · have hc : (h 182 1).toNat < qM n := by omega
    have fk := f (h 182 1).toNat (by omega) hc
    obtain ⟨t1, t2, -⟩ := cS_tree hn hc (by omega)
    have kd : keyq n (h 182 1).toNat = 7 * qP n (h 182 1).toNat + qT n (h 182 1).toNat := rfl
    have := fk.mpr (by omega)
    omega
/-- the way back from the k-th row -/
def BK (n : Nat) (h : sw_H) (k : Nat) : Prop := ∀ m : Nat, 1 ≤ m → m ≤ k → h 185 (rQ n m).toNat = rQ n (qP n m)
theorem EX_BK {n : Nat} {h : sw_H} {i j : Int} (E : EX n h i j) (hi : 0 ≤ i ∧ i < h 182 1) : BK n h i.toNat := fun m m1 m2 => (E.2.2.1 m (by omega)).2.2 m1
def DI (n k : Nat) (q l : Int) : Prop := ∃ m : Nat, m ≤ k ∧ q = rQ n m ∧ l + ((qD n m : Nat) : Int) = ((qD n k : Nat) : Int)
theorem DI_init {n k : Nat} {q : Int} (e : q = rQ n k) : DI n k q 0 := ⟨k, Nat.le_refl k, e, by omega⟩
theorem DI_rng {n k : Nat} {q l : Int} (hn : n < 4) (hk : k < qM n) (I : DI n k q l) : 0 ≤ q ∧ q ≤ 1023 ∧ l < 15 := by
  obtain ⟨m, hm, e, el⟩ := I
  have r := rQ_rng (k := m) hn (by omega)
  have A := (q_A hn hk).2.2.1
  omega
theorem DI_end {n k : Nat} {q l : Int} (hn : n < 4) (hk : k < qM n) (I : DI n k q l) (e : q = rQ n 0) : l = ((qD n k : Nat) : Int) := by
  obtain ⟨m, hm, em, el⟩ := I
  have q0 := q_0 hn
  have : m = 0 := rQ_inj hn (by omega) (by omega) (em.symm.trans e)
  subst this
  have := q0.2.1
  omega
theorem DI_step {n k : Nat} {h : sw_H} {q l z : Int} (hn : n < 4) (hk : k < qM n) (B : BK n h k) (I : DI n k q l) (e : q ≠ rQ n 0) (hz : z = h 185 q.toNat) : DI n k z (l + 1) := by
  obtain ⟨m, hm, em, el⟩ := I
  have m1 : 1 ≤ m := by
    rcases Nat.eq_zero_or_pos m with q0 | q0
    · subst q0
      exact absurd em e
    · exact q0
  have A := (q_A (k := m) hn (by omega)).2.2.2.resolve_left (by omega)
  have b := B m m1 hm
  rw [em, b] at hz
  exact ⟨qP n m, by omega, hz, by omega⟩
theorem XT_cls {n r : Int} (T : TK n r) {k : Nat} (hk : k < qM n.toNat) (e : rowE r = rQ n.toNat k) : ((qD n.toNat k : Nat) : Int) = XT n r := by
  have hn : n.toNat < 4 := by have := T.1; omega
  have e1 := rowE_inj (TK_V T).1 (rQ_V hn hk) e
  exact (XT_in T hk (by omega)).symm
theorem XT_cno {n r : Int} (h : ∀ k : Nat, k < qM n.toNat → rQ n.toNat k ≠ rowE r) : -1 = XT n r := by
  refine XT_out (fun T k hk e => ?_)
  have hr := T.2.1
  refine h k hk ?_
  unfold rQ
  rw [e, show ((r.toNat : Nat) : Int) = r by omega]
theorem XT_ntk {n r : Int} (h : ¬ TK n r) : -1 = XT n r := XT_out (fun T => absurd T h)
/-- the row that is told, digit by digit -/
def RO (n m q u t : Int) : Prop := (t = 1000 ∧ q = 0 ∧ u = 0) ∨ (t = 100 ∧ q = m / 1000 ∧ ((u = 0 ∧ m / 1000 = 0) ∨ (u = 1 ∧ 1 ≤ m / 1000 ∧ m / 1000 ≤ n))) ∨ (t = 10 ∧ q = m / 1000 * 4 + m / 100 % 10 ∧ ((u = 0 ∧ m / 100 = 0) ∨ (u = 1 ∧ 1 ≤ m / 100 % 10 ∧ m / 100 % 10 ≤ n ∧ (m / 1000 = 0 ∨ (1 ≤ m / 1000 ∧ m / 1000 ≤ n))))) ∨ (t = 1 ∧ q = (m / 1000 * 4 + m / 100 % 10) * 4 + m / 10 % 10 ∧ ((u = 0 ∧ m / 10 = 0) ∨ (u = 1 ∧ 1 ≤ m / 10 % 10 ∧ m / 10 % 10 ≤ n ∧ (m / 100 = 0 ∨ (1 ≤ m / 100 % 10 ∧ m / 100 % 10 ≤ n ∧ (m / 1000 = 0 ∨ (1 ≤ m / 1000 ∧ m / 1000 ≤ n))))))) ∨ (t = 0 ∧ q = ((m / 1000 * 4 + m / 100 % 10) * 4 + m / 10 % 10) * 4 + m % 10 ∧ okd n m)
theorem RO_rng {n m q u t : Int} (hn : 0 ≤ n ∧ n ≤ 3) (hm : 0 ≤ m ∧ m ≤ 9999) (R : RO n m q u t) : 0 ≤ q ∧ q ≤ 255 ∧ (q ≤ 63 ∨ t < 1) ∧ 0 ≤ t ∧ t ≤ 1000 := by
  rcases R with R | R | R | R | ⟨a, b, c⟩
  · omega
  · omega
  · omega
  · omega
  · unfold okd at c; omega
theorem RO_d {n m q u t : Int} (hm : 0 ≤ m ∧ m ≤ 9999) (R : RO n m q u t) (h1 : 1 ≤ t) : (t = 1000 ∧ sw_w ((sw_w (m.tdiv t)).tmod 10) = m / 1000) ∨ (t = 100 ∧ sw_w ((sw_w (m.tdiv t)).tmod 10) = m / 100 % 10) ∨ (t = 10 ∧ sw_w ((sw_w (m.tdiv t)).tmod 10) = m / 10 % 10) ∨ (t = 1 ∧ sw_w ((sw_w (m.tdiv t)).tmod 10) = m % 10) := by
  have ht : t = 1000 ∨ t = 100 ∨ t = 10 ∨ t = 1 := by
    rcases R with R | R | R | R | R
    · exact Or.inl R.1
    · exact Or.inr (Or.inl R.1)
    · exact Or.inr (Or.inr (Or.inl R.1))
    · exact Or.inr (Or.inr (Or.inr R.1))
    · have := R.1; omega
  have e : ∀ p : Int, 1 ≤ p → sw_w ((sw_w (m.tdiv p)).tmod 10) = m / p % 10 := by
    intro p hp
    have d1 : 0 ≤ m / p := Int.ediv_nonneg hm.1 (by omega)
    have d2 : m / p ≤ m := Int.ediv_le_self _ hm.1
    rw [Int.tdiv_eq_ediv_of_nonneg hm.1, show sw_w (m / p) = m / p from sw_w_id (by omega) (by omega), Int.tmod_eq_emod_of_nonneg d1, sw_w_id (by omega) (by omega)]
  have e2 := e t h1
  rcases ht with rfl | rfl | rfl | rfl
  · exact Or.inl ⟨rfl, by rw [e2]; omega⟩
  · exact Or.inr (Or.inl ⟨rfl, e2⟩)
  · exact Or.inr (Or.inr (Or.inl ⟨rfl, e2⟩))
  · exact Or.inr (Or.inr (Or.inr ⟨rfl, by rw [e2]; omega⟩))
theorem RO_zero {n m q u t d : Int} (hm : 0 ≤ m ∧ m ≤ 9999) (R : RO n m q u t) (h1 : 1 ≤ t) (e : d = sw_w ((sw_w (m.tdiv t)).tmod 10)) (hu : u = 0) (hd : d = 0) : RO n m (q * 4 + d) 0 (t.tdiv 10) := by
  have D := RO_d hm R h1
  rw [← e] at D
  rcases R with ⟨a, b, c⟩ | ⟨a, b, c⟩ | ⟨a, b, c⟩ | ⟨a, b, c⟩ | ⟨a, b, c⟩
  · subst a; exact Or.inr (Or.inl ⟨by decide, by omega, Or.inl ⟨rfl, by omega⟩⟩)
  · subst a; exact Or.inr (Or.inr (Or.inl ⟨by decide, by omega, Or.inl ⟨rfl, by omega⟩⟩))
  · subst a; exact Or.inr (Or.inr (Or.inr (Or.inl ⟨by decide, by omega, Or.inl ⟨rfl, by omega⟩⟩)))
  · subst a; exact Or.inr (Or.inr (Or.inr (Or.inr ⟨by decide, by omega, Or.inl (by omega)⟩)))
  · omega
theorem RO_one {n m q u t d : Int} (hm : 0 ≤ m ∧ m ≤ 9999) (R : RO n m q u t) (h1 : 1 ≤ t) (e : d = sw_w ((sw_w (m.tdiv t)).tmod 10)) (hd : 1 ≤ d ∧ d ≤ n) : RO n m (q * 4 + d) 1 (t.tdiv 10) := by
  have D := RO_d hm R h1
  rw [← e] at D
  rcases R with ⟨a, b, c⟩ | ⟨a, b, c⟩ | ⟨a, b, c⟩ | ⟨a, b, c⟩ | ⟨a, b, c⟩
  · subst a; exact Or.inr (Or.inl ⟨by decide, by omega, Or.inr ⟨rfl, by omega, by omega⟩⟩)
  · subst a; exact Or.inr (Or.inr (Or.inl ⟨by decide, by omega, Or.inr ⟨rfl, by omega, by omega, by omega⟩⟩))
  · subst a
    refine Or.inr (Or.inr (Or.inr (Or.inl ⟨by decide, by omega, Or.inr ⟨rfl, by omega, by omega, ?_⟩⟩)))
    rcases c with c | c
    · exact Or.inl (by omega)
    · exact Or.inr ⟨c.2.1, c.2.2.1, c.2.2.2⟩
  · subst a
    refine Or.inr (Or.inr (Or.inr (Or.inr ⟨by decide, by omega, ?_⟩)))
    refine Or.inr ⟨by omega, by omega, ?_⟩
    rcases c with c | c
    · exact Or.inl (by omega)
    · exact Or.inr ⟨c.2.1, c.2.2.1, c.2.2.2⟩
  · omega
theorem RO_bad {n m q u t d : Int} (hn : 0 ≤ n ∧ n ≤ 3) (hm : 0 ≤ m ∧ m ≤ 9999) (R : RO n m q u t) (h1 : 1 ≤ t) (e : d = sw_w ((sw_w (m.tdiv t)).tmod 10)) (hu : u ≠ 0 ∨ d ≠ 0) (hd : d < 1 ∨ n < d) : ¬ TK n m := by
  intro T
  have o := T.2.2
  have D := RO_d hm R h1
  rw [← e] at D
  unfold okd at o
  rcases R with ⟨a, b, c⟩ | ⟨a, b, c⟩ | ⟨a, b, c⟩ | ⟨a, b, c⟩ | ⟨a, b, c⟩
  · have d1 : d = m / 1000 := by omega
    clear D e b
    omega
  · have d1 : d = m / 100 % 10 := by omega
    clear D e b
    omega
  · have d1 : d = m / 10 % 10 := by omega
    clear D e b
    omega
  · have d1 : d = m % 10 := by omega
    clear D e b
    omega
  · omega
theorem RO_end {n m q u t : Int} (hn : 0 ≤ n ∧ n ≤ 3) (hm : 0 ≤ m ∧ m ≤ 9999) (R : RO n m q u t) (h1 : t < 1) : TK n m ∧ q = rowE m := by
  rcases R with R | R | R | R | ⟨a, b, c⟩
  · omega
  · omega
  · omega
  · omega
  · refine ⟨⟨hn, hm, c⟩, ?_⟩
    unfold rowE
    omega
theorem rQ_0 {n : Int} (hn : 0 ≤ n ∧ n ≤ 3) : rowE (st0 n) = rQ n.toNat 0 := by
  unfold rQ
  rw [(q_0 (n := n.toNat) (by omega)).1, ← (st0_N hn).2]
theorem T_no {n r t : Int} (hT : (TK n r ∧ t = rowE r) ∨ (¬ TK n r ∧ t = -1)) (c : t = -1) : -1 = XT n r := by
  rcases hT with ⟨T, e⟩ | ⟨T, -⟩
  · have := (rowE_V (TK_V T).1).2.1
    omega
  · exact XT_ntk T
theorem T_yes {n r t : Int} (hT : (TK n r ∧ t = rowE r) ∨ (¬ TK n r ∧ t = -1)) (c : t ≠ -1) : TK n r ∧ t = rowE r ∧ (0 ≤ t ∧ t ≤ 1023) ∧ (0 ≤ n ∧ n ≤ 3) := by
  rcases hT with ⟨T, e⟩ | ⟨-, e⟩
  · have := (rowE_V (TK_V T).1).2.1
    exact ⟨T, e, by omega, T.1⟩
  · exact absurd e c

