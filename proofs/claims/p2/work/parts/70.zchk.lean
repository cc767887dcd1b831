theorem zpT540 : zcheck zpZ zpRS zpMT [] zpC540 zpP11 2 zpA540 [] 3000 = true := by decide +kernel
theorem zpT541 : zcheck zpZ zpRS zpMT [zpC423, zpC536, zpC537, zpC538, zpC539, zpC540] zpC541 zpP11 1 zpA541 [] 3000 = true := by decide +kernel
theorem zpT542 : zcheck zpZ zpRS zpMT [zpC541] zpC542 zpP11 1 zpA542 [] 3000 = true := by decide +kernel
theorem zpT543 : zcheck zpZ zpRS zpMT [zpC462] zpC543 zpP11 2 zpA543 [] 3000 = true := by decide +kernel
theorem zpT544 : zcheck zpZ zpRS zpMT [zpC541] zpC544 zpP11 1 zpA544 [] 3000 = true := by decide +kernel
theorem zpT545 : zcheck zpZ zpRS zpMT [zpC544] zpC545 zpP11 1 zpA545 [] 3000 = true := by decide +kernel
theorem zpT546 : zcheck zpZ zpRS zpMT [zpC545] zpC546 zpP11 1 zpA546 [] 3000 = true := by decide +kernel
theorem zpT547 : zcheck zpZ zpRS zpMT [zpC405, zpC407, zpC466, zpC468, zpC543, zpC546] zpC547 zpP11 1 zpA547 [] 3000 = true := by decide +kernel
theorem zpT548 : zcheck zpZ zpRS zpMT [zpC546] zpC548 zpP11 2 zpA548 [] 3000 = true := by decide +kernel
theorem zpT549 : zcheck zpZ zpRS zpMT [zpC466, zpC468, zpC543, zpC548] zpC549 zpP11 1 zpA549 [] 3000 = true := by decide +kernel
theorem zpT550 : zcheck zpZ zpRS zpMT [zpC468, zpC543, zpC548] zpC550 zpP11 1 zpA550 [] 3000 = true := by decide +kernel
theorem zpT551 : zcheck zpZ zpRS zpMT [zpC410, zpC468, zpC548] zpC551 zpP11 1 zpA551 [] 3000 = true := by decide +kernel
theorem zpT552 : zcheck zpZ zpRS zpMT [zpC463, zpC468, zpC548] zpC552 zpP11 1 zpA552 [] 3000 = true := by decide +kernel
theorem zpT553 : zcheck zpZ zpRS zpMT [zpC466] zpC553 zpP11 1 zpA553 [] 3000 = true := by decide +kernel
theorem zpT554 : zcheck zpZ zpRS zpMT [] zpC554 zpP11 2 zpA554 [] 3000 = true := by decide +kernel
theorem zpT555 : zcheck zpZ zpRS zpMT [zpC405, zpC410, zpC457, zpC459, zpC460, zpC466, zpC468, zpC554] zpC555 zpP11 1 zpA555 [] 3000 = true := by decide +kernel
theorem zpT556 : zcheck zpZ zpRS zpMT [] zpC556 zpP11 1 zpA556 [] 3000 = true := by decide +kernel
theorem zpT557 : zcheck zpZ zpRS zpMT [] zpC557 zpP11 2 zpA557 [] 3000 = true := by decide +kernel
theorem zpT558 : zcheck zpZ zpRS zpMT [zpC466, zpC468, zpC556, zpC557] zpC558 zpP11 1 zpA558 [] 3000 = true := by decide +kernel
theorem zpT559 : zcheck zpZ zpRS zpMT [zpC434, zpC458, zpC466] zpC559 zpP11 1 zpA559 [] 3000 = true := by decide +kernel
theorem zpT560 : zcheck zpZ zpRS zpMT [zpC410, zpC460, zpC461, zpC466] zpC560 zpP11 1 zpA560 [] 3000 = true := by decide +kernel
theorem zpT561 : zcheck zpZ zpRS zpMT [] zpC561 zpP11 1 zpA561 [] 3000 = true := by decide +kernel
theorem zpT562 : zcheck zpZ zpRS zpMT [] zpC562 zpP11 1 zpA562 [] 3000 = true := by decide +kernel
theorem zpT563 : zcheck zpZ zpRS zpMT [] zpC563 zpP11 0 zpA563 [] 3000 = true := by decide +kernel
theorem zpT564 : zcheck zpZ zpRS zpMT [zpC563] zpC564 zpP11 1 zpA564 [] 3000 = true := by decide +kernel
theorem zpT565 : zcheck zpZ zpRS zpMT [zpC563] zpC565 zpP11 1 zpA565 [] 3000 = true := by decide +kernel
theorem zpT566 : zcheck zpZ zpRS zpMT [zpC563, zpC565] zpC566 zpP11 1 zpA566 [] 3000 = true := by decide +kernel
theorem zpT567 : zcheck zpZ zpRS zpMT [zpC563, zpC565] zpC567 zpP11 1 zpA567 [] 3000 = true := by decide +kernel
theorem zpT568 : zcheck zpZ zpRS zpMT [zpC563, zpC565, zpC566, zpC567] zpC568 zpP11 1 zpA568 [] 3000 = true := by decide +kernel
theorem zpT569 : zcheck zpZ zpRS zpMT [zpC563, zpC564, zpC568] zpC569 zpP11 1 zpA569 [] 3000 = true := by decide +kernel
theorem zpT570 : zcheck zpZ zpRS zpMT [zpC563, zpC568] zpC570 zpP11 1 zpA570 [] 3000 = true := by decide +kernel
theorem zpT571 : zcheck zpZ zpRS zpMT [zpC563, zpC570] zpC571 zpP11 1 zpA571 [] 3000 = true := by decide +kernel
theorem zpT572 : zcheck zpZ zpRS zpMT [zpC563, zpC568, zpC569, zpC570, zpC571] zpC572 zpP11 1 zpA572 [] 3000 = true := by decide +kernel
theorem zpT573 : zcheck zpZ zpRS zpMT [zpC563, zpC569, zpC572] zpC573 zpP11 1 zpA573 [] 3000 = true := by decide +kernel
theorem zpT574 : zcheck zpZ zpRS zpMT [zpC563, zpC569, zpC572, zpC573] zpC574 zpP11 1 zpA574 [] 3000 = true := by decide +kernel
theorem zpT575 : zcheck zpZ zpRS zpMT [zpC543, zpC568, zpC569, zpC572, zpC574] zpC575 zpP11 1 zpA575 [] 3000 = true := by decide +kernel
theorem zpT576 : zcheck zpZ zpRS zpMT [] zpC576 zpP11 1 zpA576 [] 3000 = true := by decide +kernel
theorem zpT577 : zcheck zpZ zpRS zpMT [zpC453, zpC543] zpC577 zpP11 1 zpA577 [] 3000 = true := by decide +kernel
theorem zpT578 : zcheck zpZ zpRS zpMT [] zpC578 zpP11 2 zpA578 [] 3000 = true := by decide +kernel
theorem zpT579 : zcheck zpZ zpRS zpMT [zpC453, zpC578] zpC579 zpP11 1 zpA579 [] 3000 = true := by decide +kernel
theorem zpT580 : zcheck zpZ zpRS zpMT [] zpC580 zpP11 3 zpA580 [] 3000 = true := by decide +kernel
theorem zpT581 : zcheck zpZ zpRS zpMT [zpC453] zpC581 zpP11 1 zpA581 [] 3000 = true := by decide +kernel
theorem zpT582 : zcheck zpZ zpRS zpMT [zpC580, zpC581] zpC582 zpP11 1 zpA582 [] 3000 = true := by decide +kernel
theorem zpT583 : zcheck zpZ zpRS zpMT [zpC581] zpC583 zpP11 3 zpA583 [] 3000 = true := by decide +kernel
theorem zpT584 : zcheck zpZ zpRS zpMT [zpC453] zpC584 zpP11 1 zpA584 [(66, 5, 0, 60)] 3000 = true := by decide +kernel
theorem zpT585 : zcheck zpZ zpRS zpMT [] zpC585 zpP11 1 zpA585 [] 3000 = true := by decide +kernel
theorem zpT586 : zcheck zpZ zpRS zpMT [] zpC586 zpP11 1 zpA586 [] 3000 = true := by decide +kernel
theorem zpT587 : zcheck zpZ zpRS zpMT [] zpC587 zpP11 1 zpA587 [] 3000 = true := by decide +kernel
theorem zpT588 : zcheck zpZ zpRS zpMT [] zpC588 zpP11 1 zpA588 [] 3000 = true := by decide +kernel
theorem zpT589 : zcheck zpZ zpRS zpMT [] zpC589 zpP11 1 zpA589 [] 3000 = true := by decide +kernel
theorem zpT590 : zcheck zpZ zpRS zpMT [] zpC590 zpP11 1 zpA590 [] 3000 = true := by decide +kernel
theorem zpT591 : zcheck zpZ zpRS zpMT [] zpC591 zpP11 1 zpA591 [] 3000 = true := by decide +kernel
theorem zpT592 : zcheck zpZ zpRS zpMT [] zpC592 zpP11 1 zpA592 [] 3000 = true := by decide +kernel
theorem zpT593 : zcheck zpZ zpRS zpMT [zpC431, zpC453, zpC585, zpC586, zpC587, zpC588, zpC589, zpC590, zpC591, zpC592] zpC593 zpP11 1 zpA593 [(21, 1, (-9), 99), (58, 3, (-9), 99)] 3000 = true := by decide +kernel
theorem zpT594 : zcheck zpZ zpRS zpMT [] zpC594 zpP11 1 zpA594 [] 3000 = true := by decide +kernel
