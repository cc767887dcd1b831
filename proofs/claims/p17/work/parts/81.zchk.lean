theorem zpT585 : zcheck zpZ zpRS zpMT [zpC543, zpC544, zpC584] zpC585 zpP12 1 zpA585 [] 3000 = true := by decide +kernel
theorem zpT586 : zcheck zpZ zpRS zpMT [zpC546, zpC547, zpC585] zpC586 zpP12 1 zpA586 [] 3000 = true := by decide +kernel
theorem zpT587 : zcheck zpZ zpRS zpMT [zpC472] zpC587 zpP12 2 zpA587 [] 3000 = true := by decide +kernel
theorem zpT588 : zcheck zpZ zpRS zpMT [] zpC588 zpP12 2 zpA588 [] 3000 = true := by decide +kernel
theorem zpT589 : zcheck zpZ zpRS zpMT [zpC472] zpC589 zpP12 2 zpA589 [] 3000 = true := by decide +kernel
theorem zpT590 : zcheck zpZ zpRS zpMT [] zpC590 zpP12 2 zpA590 [] 3000 = true := by decide +kernel
theorem zpT591 : zcheck zpZ zpRS zpMT [zpC473, zpC586, zpC587, zpC588, zpC589, zpC590] zpC591 zpP12 1 zpA591 [] 3000 = true := by decide +kernel
theorem zpT592 : zcheck zpZ zpRS zpMT [zpC591] zpC592 zpP12 1 zpA592 [] 3000 = true := by decide +kernel
theorem zpT593 : zcheck zpZ zpRS zpMT [zpC512] zpC593 zpP12 2 zpA593 [] 3000 = true := by decide +kernel
theorem zpT594 : zcheck zpZ zpRS zpMT [zpC591] zpC594 zpP12 1 zpA594 [] 3000 = true := by decide +kernel
theorem zpT595 : zcheck zpZ zpRS zpMT [zpC594] zpC595 zpP12 1 zpA595 [] 3000 = true := by decide +kernel
theorem zpT596e : zrun zpZ zpRS zpP12 zpMT [zpC595] (zpC596.2.2.1.2.1.length, zpC596.2.2.2.1, zpC596.2.2.2.2, zpC596.2.1, 1) (zpMT zpC596.1).2.1 zpA596 [] none 3000 0 zpC596.2.2.1.2 = true := by decide +kernel
theorem zpT596h0 : zhead zpZ zpRS zpMT [zpC595] zpC596 zpP12 1 zpA596 [] 3000 zpA596h0 = true := by decide +kernel
theorem zpT596 : zcheck zpZ zpRS zpMT [zpC595] zpC596 zpP12 1 zpA596 [] 3000 = true := zcheck_of zpT596e (zall_cons zpT596h0 (zall_nil)) (by decide +kernel)
theorem zpT597 : zcheck zpZ zpRS zpMT [zpC455, zpC457, zpC516, zpC518, zpC593, zpC596] zpC597 zpP12 1 zpA597 [] 3000 = true := by decide +kernel
theorem zpT598 : zcheck zpZ zpRS zpMT [zpC596] zpC598 zpP12 2 zpA598 [] 3000 = true := by decide +kernel
theorem zpT599 : zcheck zpZ zpRS zpMT [zpC516, zpC518, zpC593, zpC598] zpC599 zpP12 1 zpA599 [] 3000 = true := by decide +kernel
theorem zpT600 : zcheck zpZ zpRS zpMT [zpC518, zpC593, zpC598] zpC600 zpP12 1 zpA600 [] 3000 = true := by decide +kernel
theorem zpT601 : zcheck zpZ zpRS zpMT [zpC460, zpC518, zpC598] zpC601 zpP12 1 zpA601 [] 3000 = true := by decide +kernel
theorem zpT602 : zcheck zpZ zpRS zpMT [zpC513, zpC518, zpC598] zpC602 zpP12 1 zpA602 [] 3000 = true := by decide +kernel
theorem zpT603 : zcheck zpZ zpRS zpMT [zpC516] zpC603 zpP12 1 zpA603 [] 3000 = true := by decide +kernel
theorem zpT604 : zcheck zpZ zpRS zpMT [] zpC604 zpP12 2 zpA604 [] 3000 = true := by decide +kernel
theorem zpT605 : zcheck zpZ zpRS zpMT [zpC455, zpC460, zpC507, zpC509, zpC510, zpC516, zpC518, zpC604] zpC605 zpP12 1 zpA605 [] 3000 = true := by decide +kernel
theorem zpT606 : zcheck zpZ zpRS zpMT [] zpC606 zpP12 1 zpA606 [] 3000 = true := by decide +kernel
theorem zpT607 : zcheck zpZ zpRS zpMT [] zpC607 zpP12 2 zpA607 [] 3000 = true := by decide +kernel
theorem zpT608 : zcheck zpZ zpRS zpMT [zpC516, zpC518, zpC606, zpC607] zpC608 zpP12 1 zpA608 [] 3000 = true := by decide +kernel
theorem zpT609e : zrun zpZ zpRS zpP12 zpMT [zpC484, zpC508, zpC516] (zpC609.2.2.1.2.1.length, zpC609.2.2.2.1, zpC609.2.2.2.2, zpC609.2.1, 1) (zpMT zpC609.1).2.1 zpA609 [] none 3000 0 zpC609.2.2.1.2 = true := by decide +kernel
theorem zpT609h0 : zhead zpZ zpRS zpMT [zpC484, zpC508, zpC516] zpC609 zpP12 1 zpA609 [] 3000 zpA609h0 = true := by decide +kernel
theorem zpT609h1 : zhead zpZ zpRS zpMT [zpC484, zpC508, zpC516] zpC609 zpP12 1 zpA609 [] 3000 zpA609h1 = true := by decide +kernel
theorem zpT609 : zcheck zpZ zpRS zpMT [zpC484, zpC508, zpC516] zpC609 zpP12 1 zpA609 [] 3000 = true := zcheck_of zpT609e (zall_cons zpT609h0 (zall_cons zpT609h1 (zall_nil))) (by decide +kernel)
theorem zpT610 : zcheck zpZ zpRS zpMT [zpC460, zpC510, zpC511, zpC516] zpC610 zpP12 1 zpA610 [] 3000 = true := by decide +kernel
theorem zpT611 : zcheck zpZ zpRS zpMT [] zpC611 zpP12 1 zpA611 [] 3000 = true := by decide +kernel
theorem zpT612 : zcheck zpZ zpRS zpMT [] zpC612 zpP12 1 zpA612 [] 3000 = true := by decide +kernel
theorem zpT613 : zcheck zpZ zpRS zpMT [] zpC613 zpP12 0 zpA613 [] 3000 = true := by decide +kernel
theorem zpT614 : zcheck zpZ zpRS zpMT [zpC613] zpC614 zpP12 1 zpA614 [] 3000 = true := by decide +kernel
theorem zpT615 : zcheck zpZ zpRS zpMT [zpC613] zpC615 zpP12 1 zpA615 [] 3000 = true := by decide +kernel
theorem zpT616 : zcheck zpZ zpRS zpMT [zpC613, zpC615] zpC616 zpP12 1 zpA616 [] 3000 = true := by decide +kernel
theorem zpT617 : zcheck zpZ zpRS zpMT [zpC613, zpC615] zpC617 zpP12 1 zpA617 [] 3000 = true := by decide +kernel
theorem zpT618 : zcheck zpZ zpRS zpMT [zpC613, zpC615, zpC616, zpC617] zpC618 zpP12 1 zpA618 [] 3000 = true := by decide +kernel
theorem zpT619 : zcheck zpZ zpRS zpMT [zpC613, zpC614, zpC618] zpC619 zpP12 1 zpA619 [] 3000 = true := by decide +kernel
theorem zpT620 : zcheck zpZ zpRS zpMT [zpC613, zpC618] zpC620 zpP12 1 zpA620 [] 3000 = true := by decide +kernel
theorem zpT621 : zcheck zpZ zpRS zpMT [zpC613, zpC620] zpC621 zpP12 1 zpA621 [] 3000 = true := by decide +kernel
theorem zpT622 : zcheck zpZ zpRS zpMT [zpC613, zpC618, zpC619, zpC620, zpC621] zpC622 zpP12 1 zpA622 [] 3000 = true := by decide +kernel
theorem zpT623 : zcheck zpZ zpRS zpMT [zpC613, zpC619, zpC622] zpC623 zpP12 1 zpA623 [] 3000 = true := by decide +kernel
theorem zpT624 : zcheck zpZ zpRS zpMT [zpC613, zpC619, zpC622, zpC623] zpC624 zpP12 1 zpA624 [] 3000 = true := by decide +kernel
theorem zpT625 : zcheck zpZ zpRS zpMT [zpC593, zpC618, zpC619, zpC622, zpC624] zpC625 zpP12 1 zpA625 [] 3000 = true := by decide +kernel
theorem zpT626 : zcheck zpZ zpRS zpMT [] zpC626 zpP12 1 zpA626 [] 3000 = true := by decide +kernel
theorem zpT627 : zcheck zpZ zpRS zpMT [zpC503, zpC593] zpC627 zpP12 1 zpA627 [] 3000 = true := by decide +kernel
theorem zpT628 : zcheck zpZ zpRS zpMT [] zpC628 zpP12 2 zpA628 [] 3000 = true := by decide +kernel
theorem zpT629 : zcheck zpZ zpRS zpMT [zpC503, zpC628] zpC629 zpP12 1 zpA629 [] 3000 = true := by decide +kernel
theorem zpT630 : zcheck zpZ zpRS zpMT [] zpC630 zpP12 3 zpA630 [] 3000 = true := by decide +kernel
theorem zpT631 : zcheck zpZ zpRS zpMT [zpC503] zpC631 zpP12 1 zpA631 [] 3000 = true := by decide +kernel
theorem zpT632 : zcheck zpZ zpRS zpMT [zpC630, zpC631] zpC632 zpP12 1 zpA632 [] 3000 = true := by decide +kernel
theorem zpT633 : zcheck zpZ zpRS zpMT [zpC631] zpC633 zpP12 3 zpA633 [] 3000 = true := by decide +kernel
theorem zpT634e : zrun zpZ zpRS zpP12 zpMT [zpC503] (zpC634.2.2.1.2.1.length, zpC634.2.2.2.1, zpC634.2.2.2.2, zpC634.2.1, 1) (zpMT zpC634.1).2.1 zpA634 [(66, 5, 0, 60)] none 3000 0 zpC634.2.2.1.2 = true := by decide +kernel
theorem zpT634h0 : zhead zpZ zpRS zpMT [zpC503] zpC634 zpP12 1 zpA634 [(66, 5, 0, 60)] 3000 zpA634h0 = true := by decide +kernel
theorem zpT634h1 : zhead zpZ zpRS zpMT [zpC503] zpC634 zpP12 1 zpA634 [(66, 5, 0, 60)] 3000 zpA634h1 = true := by decide +kernel
theorem zpT634h2 : zhead zpZ zpRS zpMT [zpC503] zpC634 zpP12 1 zpA634 [(66, 5, 0, 60)] 3000 zpA634h2 = true := by decide +kernel
theorem zpT634h3 : zhead zpZ zpRS zpMT [zpC503] zpC634 zpP12 1 zpA634 [(66, 5, 0, 60)] 3000 zpA634h3 = true := by decide +kernel
theorem zpT634h4 : zhead zpZ zpRS zpMT [zpC503] zpC634 zpP12 1 zpA634 [(66, 5, 0, 60)] 3000 zpA634h4 = true := by decide +kernel
theorem zpT634h5 : zhead zpZ zpRS zpMT [zpC503] zpC634 zpP12 1 zpA634 [(66, 5, 0, 60)] 3000 zpA634h5 = true := by decide +kernel
theorem zpT634h6 : zhead zpZ zpRS zpMT [zpC503] zpC634 zpP12 1 zpA634 [(66, 5, 0, 60)] 3000 zpA634h6 = true := by decide +kernel
theorem zpT634h7 : zhead zpZ zpRS zpMT [zpC503] zpC634 zpP12 1 zpA634 [(66, 5, 0, 60)] 3000 zpA634h7 = true := by decide +kernel
theorem zpT634h8 : zhead zpZ zpRS zpMT [zpC503] zpC634 zpP12 1 zpA634 [(66, 5, 0, 60)] 3000 zpA634h8 = true := by decide +kernel
theorem zpT634h9 : zhead zpZ zpRS zpMT [zpC503] zpC634 zpP12 1 zpA634 [(66, 5, 0, 60)] 3000 zpA634h9 = true := by decide +kernel
theorem zpT634h10 : zhead zpZ zpRS zpMT [zpC503] zpC634 zpP12 1 zpA634 [(66, 5, 0, 60)] 3000 zpA634h10 = true := by decide +kernel
theorem zpT634h11 : zhead zpZ zpRS zpMT [zpC503] zpC634 zpP12 1 zpA634 [(66, 5, 0, 60)] 3000 zpA634h11 = true := by decide +kernel
theorem zpT634h12 : zhead zpZ zpRS zpMT [zpC503] zpC634 zpP12 1 zpA634 [(66, 5, 0, 60)] 3000 zpA634h12 = true := by decide +kernel
theorem zpT634h13 : zhead zpZ zpRS zpMT [zpC503] zpC634 zpP12 1 zpA634 [(66, 5, 0, 60)] 3000 zpA634h13 = true := by decide +kernel
theorem zpT634h14 : zhead zpZ zpRS zpMT [zpC503] zpC634 zpP12 1 zpA634 [(66, 5, 0, 60)] 3000 zpA634h14 = true := by decide +kernel
theorem zpT634h15 : zhead zpZ zpRS zpMT [zpC503] zpC634 zpP12 1 zpA634 [(66, 5, 0, 60)] 3000 zpA634h15 = true := by decide +kernel
theorem zpT634h16 : zhead zpZ zpRS zpMT [zpC503] zpC634 zpP12 1 zpA634 [(66, 5, 0, 60)] 3000 zpA634h16 = true := by decide +kernel
theorem zpT634h17 : zhead zpZ zpRS zpMT [zpC503] zpC634 zpP12 1 zpA634 [(66, 5, 0, 60)] 3000 zpA634h17 = true := by decide +kernel
theorem zpT634h18 : zhead zpZ zpRS zpMT [zpC503] zpC634 zpP12 1 zpA634 [(66, 5, 0, 60)] 3000 zpA634h18 = true := by decide +kernel
theorem zpT634h19 : zhead zpZ zpRS zpMT [zpC503] zpC634 zpP12 1 zpA634 [(66, 5, 0, 60)] 3000 zpA634h19 = true := by decide +kernel
theorem zpT634h20 : zhead zpZ zpRS zpMT [zpC503] zpC634 zpP12 1 zpA634 [(66, 5, 0, 60)] 3000 zpA634h20 = true := by decide +kernel
theorem zpT634h21 : zhead zpZ zpRS zpMT [zpC503] zpC634 zpP12 1 zpA634 [(66, 5, 0, 60)] 3000 zpA634h21 = true := by decide +kernel
theorem zpT634h22 : zhead zpZ zpRS zpMT [zpC503] zpC634 zpP12 1 zpA634 [(66, 5, 0, 60)] 3000 zpA634h22 = true := by decide +kernel
theorem zpT634h23 : zhead zpZ zpRS zpMT [zpC503] zpC634 zpP12 1 zpA634 [(66, 5, 0, 60)] 3000 zpA634h23 = true := by decide +kernel
theorem zpT634h24 : zhead zpZ zpRS zpMT [zpC503] zpC634 zpP12 1 zpA634 [(66, 5, 0, 60)] 3000 zpA634h24 = true := by decide +kernel
theorem zpT634h25 : zhead zpZ zpRS zpMT [zpC503] zpC634 zpP12 1 zpA634 [(66, 5, 0, 60)] 3000 zpA634h25 = true := by decide +kernel
theorem zpT634h26 : zhead zpZ zpRS zpMT [zpC503] zpC634 zpP12 1 zpA634 [(66, 5, 0, 60)] 3000 zpA634h26 = true := by decide +kernel
theorem zpT634h27 : zhead zpZ zpRS zpMT [zpC503] zpC634 zpP12 1 zpA634 [(66, 5, 0, 60)] 3000 zpA634h27 = true := by decide +kernel
theorem zpT634h28 : zhead zpZ zpRS zpMT [zpC503] zpC634 zpP12 1 zpA634 [(66, 5, 0, 60)] 3000 zpA634h28 = true := by decide +kernel
